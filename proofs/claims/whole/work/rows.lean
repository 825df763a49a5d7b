section
-- ===== PART A: goes FIRST, ahead of the names: the tables' words, and 'selects' of the private methods out of them =====
/-- a private method of a class that the tables say can be made, by its rows of tables_1 -/
def lw_okq (q : MethodName × Nat) : Prop := (q.1.cls ≠ "java/lang/invoke/MethodHandle" ∧ q.1.cls ≠ "java/lang/invoke/VarHandle") ∧ Cond.instantiable q.1.cls q.2 ∈ tables_1 ∧ Cond.privateMethod q.1 ∈ tables_1 ∧ Cond.instanceMethod q.1 ∈ tables_1
theorem lw_p0 : lw_okq (⟨"NailRods$Trade", "total", "(I)I"⟩, 4) := ⟨⟨by decide +kernel, by decide +kernel⟩, List.mem_of_getElem? (i := 23) (by decide +kernel), List.mem_of_getElem? (i := 167) (by decide +kernel), List.mem_of_getElem? (i := 168) (by decide +kernel)⟩
theorem lw_p1 : lw_okq (⟨"NailRods$Trade", "warehouseBags", "()I"⟩, 4) := ⟨⟨by decide +kernel, by decide +kernel⟩, List.mem_of_getElem? (i := 23) (by decide +kernel), List.mem_of_getElem? (i := 171) (by decide +kernel), List.mem_of_getElem? (i := 172) (by decide +kernel)⟩
theorem lw_p2 : lw_okq (⟨"NailRods$Trade", "sumOfShares", "(I)I"⟩, 4) := ⟨⟨by decide +kernel, by decide +kernel⟩, List.mem_of_getElem? (i := 23) (by decide +kernel), List.mem_of_getElem? (i := 175) (by decide +kernel), List.mem_of_getElem? (i := 176) (by decide +kernel)⟩
theorem lw_p3 : lw_okq (⟨"NailRods$Nailer", "shareOfTotal", "(I)I"⟩, 14) := ⟨⟨by decide +kernel, by decide +kernel⟩, List.mem_of_getElem? (i := 30) (by decide +kernel), List.mem_of_getElem? (i := 179) (by decide +kernel), List.mem_of_getElem? (i := 180) (by decide +kernel)⟩
theorem lw_p4 : lw_okq (⟨"NailRods$Nailer", "addToDigest", "(J)J"⟩, 14) := ⟨⟨by decide +kernel, by decide +kernel⟩, List.mem_of_getElem? (i := 30) (by decide +kernel), List.mem_of_getElem? (i := 186) (by decide +kernel), List.mem_of_getElem? (i := 187) (by decide +kernel)⟩
theorem lw_p5 : lw_okq (⟨"NailRods$Nailer", "number", "(I)I"⟩, 14) := ⟨⟨by decide +kernel, by decide +kernel⟩, List.mem_of_getElem? (i := 30) (by decide +kernel), List.mem_of_getElem? (i := 191) (by decide +kernel), List.mem_of_getElem? (i := 192) (by decide +kernel)⟩
theorem lw_p6 : lw_okq (⟨"NailRods$Trade", "foggerNumber", "(II)I"⟩, 4) := ⟨⟨by decide +kernel, by decide +kernel⟩, List.mem_of_getElem? (i := 23) (by decide +kernel), List.mem_of_getElem? (i := 195) (by decide +kernel), List.mem_of_getElem? (i := 196) (by decide +kernel)⟩
theorem lw_p7 : lw_okq (⟨"NailRods$Trade", "workersFor", "(I)I"⟩, 4) := ⟨⟨by decide +kernel, by decide +kernel⟩, List.mem_of_getElem? (i := 23) (by decide +kernel), List.mem_of_getElem? (i := 199) (by decide +kernel), List.mem_of_getElem? (i := 200) (by decide +kernel)⟩
theorem lw_p8 : lw_okq (⟨"java/lang/Throwable", "fillInStackTrace", "(I)Ljava/lang/Throwable;"⟩, 6) := ⟨⟨by decide +kernel, by decide +kernel⟩, List.mem_of_getElem? (i := 254) (by decide +kernel), List.mem_of_getElem? (i := 252) (by decide +kernel), List.mem_of_getElem? (i := 253) (by decide +kernel)⟩
theorem lw_p9 : lw_okq (⟨"NailRods$Nailer", "begin", "(III)V"⟩, 14) := ⟨⟨by decide +kernel, by decide +kernel⟩, List.mem_of_getElem? (i := 30) (by decide +kernel), List.mem_of_getElem? (i := 319) (by decide +kernel), List.mem_of_getElem? (i := 320) (by decide +kernel)⟩
theorem lw_p10 : lw_okq (⟨"NailRods", "needNailer", "(I)V"⟩, 3) := ⟨⟨by decide +kernel, by decide +kernel⟩, List.mem_of_getElem? (i := 15) (by decide +kernel), List.mem_of_getElem? (i := 330) (by decide +kernel), List.mem_of_getElem? (i := 331) (by decide +kernel)⟩
theorem lw_p11 : lw_okq (⟨"NailRods$Trade", "goBy", "(I)I"⟩, 4) := ⟨⟨by decide +kernel, by decide +kernel⟩, List.mem_of_getElem? (i := 23) (by decide +kernel), List.mem_of_getElem? (i := 401) (by decide +kernel), List.mem_of_getElem? (i := 402) (by decide +kernel)⟩
theorem lw_p12 : lw_okq (⟨"NailRods$Trade", "goByOne", "()I"⟩, 4) := ⟨⟨by decide +kernel, by decide +kernel⟩, List.mem_of_getElem? (i := 23) (by decide +kernel), List.mem_of_getElem? (i := 405) (by decide +kernel), List.mem_of_getElem? (i := 406) (by decide +kernel)⟩
theorem lw_p13 : lw_okq (⟨"NailRods$Nailer", "workHour", "()I"⟩, 14) := ⟨⟨by decide +kernel, by decide +kernel⟩, List.mem_of_getElem? (i := 30) (by decide +kernel), List.mem_of_getElem? (i := 409) (by decide +kernel), List.mem_of_getElem? (i := 410) (by decide +kernel)⟩
theorem lw_p14 : lw_okq (⟨"NailRods$Nailer", "tendFire", "()V"⟩, 14) := ⟨⟨by decide +kernel, by decide +kernel⟩, List.mem_of_getElem? (i := 30) (by decide +kernel), List.mem_of_getElem? (i := 413) (by decide +kernel), List.mem_of_getElem? (i := 414) (by decide +kernel)⟩
theorem lw_p15 : lw_okq (⟨"NailRods$Nailer", "head", "(I)I"⟩, 14) := ⟨⟨by decide +kernel, by decide +kernel⟩, List.mem_of_getElem? (i := 30) (by decide +kernel), List.mem_of_getElem? (i := 423) (by decide +kernel), List.mem_of_getElem? (i := 424) (by decide +kernel)⟩
def lw_privs_1 : List (MethodName × Nat) := [(⟨"NailRods$Trade", "total", "(I)I"⟩, 4), (⟨"NailRods$Trade", "warehouseBags", "()I"⟩, 4), (⟨"NailRods$Trade", "sumOfShares", "(I)I"⟩, 4), (⟨"NailRods$Nailer", "shareOfTotal", "(I)I"⟩, 14), (⟨"NailRods$Nailer", "addToDigest", "(J)J"⟩, 14), (⟨"NailRods$Nailer", "number", "(I)I"⟩, 14), (⟨"NailRods$Trade", "foggerNumber", "(II)I"⟩, 4), (⟨"NailRods$Trade", "workersFor", "(I)I"⟩, 4), (⟨"java/lang/Throwable", "fillInStackTrace", "(I)Ljava/lang/Throwable;"⟩, 6), (⟨"NailRods$Nailer", "begin", "(III)V"⟩, 14), (⟨"NailRods", "needNailer", "(I)V"⟩, 3), (⟨"NailRods$Trade", "goBy", "(I)I"⟩, 4), (⟨"NailRods$Trade", "goByOne", "()I"⟩, 4), (⟨"NailRods$Nailer", "workHour", "()I"⟩, 14), (⟨"NailRods$Nailer", "tendFire", "()V"⟩, 14), (⟨"NailRods$Nailer", "head", "(I)I"⟩, 14)]
theorem lw_r1 : ∀ q ∈ lw_privs_1, lw_okq q := List.forall_mem_cons.mpr ⟨lw_p0, List.forall_mem_cons.mpr ⟨lw_p1, List.forall_mem_cons.mpr ⟨lw_p2, List.forall_mem_cons.mpr ⟨lw_p3, List.forall_mem_cons.mpr ⟨lw_p4, List.forall_mem_cons.mpr ⟨lw_p5, List.forall_mem_cons.mpr ⟨lw_p6, List.forall_mem_cons.mpr ⟨lw_p7, List.forall_mem_cons.mpr ⟨lw_p8, List.forall_mem_cons.mpr ⟨lw_p9, List.forall_mem_cons.mpr ⟨lw_p10, List.forall_mem_cons.mpr ⟨lw_p11, List.forall_mem_cons.mpr ⟨lw_p12, List.forall_mem_cons.mpr ⟨lw_p13, List.forall_mem_cons.mpr ⟨lw_p14, List.forall_mem_cons.mpr ⟨lw_p15, fun _ h => absurd h List.not_mem_nil⟩⟩⟩⟩⟩⟩⟩⟩⟩⟩⟩⟩⟩⟩⟩⟩
theorem lw_p16 : lw_okq (⟨"NailRods$Nailer", "headFromHand", "(I)I"⟩, 14) := ⟨⟨by decide +kernel, by decide +kernel⟩, List.mem_of_getElem? (i := 30) (by decide +kernel), List.mem_of_getElem? (i := 427) (by decide +kernel), List.mem_of_getElem? (i := 428) (by decide +kernel)⟩
theorem lw_p17 : lw_okq (⟨"NailRods$Nailer", "store", "(I)V"⟩, 14) := ⟨⟨by decide +kernel, by decide +kernel⟩, List.mem_of_getElem? (i := 30) (by decide +kernel), List.mem_of_getElem? (i := 433) (by decide +kernel), List.mem_of_getElem? (i := 434) (by decide +kernel)⟩
theorem lw_p18 : lw_okq (⟨"NailRods$Trade", "reckonWeek", "()V"⟩, 4) := ⟨⟨by decide +kernel, by decide +kernel⟩, List.mem_of_getElem? (i := 23) (by decide +kernel), List.mem_of_getElem? (i := 437) (by decide +kernel), List.mem_of_getElem? (i := 438) (by decide +kernel)⟩
theorem lw_p19 : lw_okq (⟨"NailRods$Fogger", "buyBags", "(LNailRods$Nailer;)V"⟩, 6) := ⟨⟨by decide +kernel, by decide +kernel⟩, List.mem_of_getElem? (i := 94) (by decide +kernel), List.mem_of_getElem? (i := 441) (by decide +kernel), List.mem_of_getElem? (i := 442) (by decide +kernel)⟩
theorem lw_p20 : lw_okq (⟨"NailRods$Fogger", "collectDebt", "(LNailRods$Nailer;)V"⟩, 6) := ⟨⟨by decide +kernel, by decide +kernel⟩, List.mem_of_getElem? (i := 94) (by decide +kernel), List.mem_of_getElem? (i := 447) (by decide +kernel), List.mem_of_getElem? (i := 448) (by decide +kernel)⟩
theorem lw_p21 : lw_okq (⟨"NailRods$Fogger", "deliver", "()V"⟩, 6) := ⟨⟨by decide +kernel, by decide +kernel⟩, List.mem_of_getElem? (i := 94) (by decide +kernel), List.mem_of_getElem? (i := 452) (by decide +kernel), List.mem_of_getElem? (i := 453) (by decide +kernel)⟩
theorem lw_p22 : lw_okq (⟨"NailRods$Nailer", "copyFrom", "(LNailRods$Nailer;)V"⟩, 14) := ⟨⟨by decide +kernel, by decide +kernel⟩, List.mem_of_getElem? (i := 30) (by decide +kernel), List.mem_of_getElem? (i := 463) (by decide +kernel), List.mem_of_getElem? (i := 464) (by decide +kernel)⟩
theorem lw_p23 : lw_okq (⟨"NailRods$Nailer", "workHours", "(I)I"⟩, 14) := ⟨⟨by decide +kernel, by decide +kernel⟩, List.mem_of_getElem? (i := 30) (by decide +kernel), List.mem_of_getElem? (i := 467) (by decide +kernel), List.mem_of_getElem? (i := 468) (by decide +kernel)⟩
theorem lw_p24 : lw_okq (⟨"NailRods$Trade", "copyFrom", "(LNailRods$Trade;)V"⟩, 4) := ⟨⟨by decide +kernel, by decide +kernel⟩, List.mem_of_getElem? (i := 23) (by decide +kernel), List.mem_of_getElem? (i := 487) (by decide +kernel), List.mem_of_getElem? (i := 488) (by decide +kernel)⟩
theorem lw_p25 : lw_okq (⟨"NailRods$Fogger", "copyFrom", "(LNailRods$Fogger;)V"⟩, 6) := ⟨⟨by decide +kernel, by decide +kernel⟩, List.mem_of_getElem? (i := 94) (by decide +kernel), List.mem_of_getElem? (i := 492) (by decide +kernel), List.mem_of_getElem? (i := 493) (by decide +kernel)⟩
theorem lw_p26 : lw_okq (⟨"NailRodsModel", "no", "(I)I"⟩, 8) := ⟨⟨by decide +kernel, by decide +kernel⟩, List.mem_of_getElem? (i := 508) (by decide +kernel), List.mem_of_getElem? (i := 549) (by decide +kernel), List.mem_of_getElem? (i := 550) (by decide +kernel)⟩
theorem lw_p27 : lw_okq (⟨"NailRodsModel", "isThere", "(I)Z"⟩, 8) := ⟨⟨by decide +kernel, by decide +kernel⟩, List.mem_of_getElem? (i := 508) (by decide +kernel), List.mem_of_getElem? (i := 557) (by decide +kernel), List.mem_of_getElem? (i := 558) (by decide +kernel)⟩
theorem lw_p28 : lw_okq (⟨"NailRodsModel", "put", "(II)I"⟩, 8) := ⟨⟨by decide +kernel, by decide +kernel⟩, List.mem_of_getElem? (i := 508) (by decide +kernel), List.mem_of_getElem? (i := 569) (by decide +kernel), List.mem_of_getElem? (i := 570) (by decide +kernel)⟩
theorem lw_p29 : lw_okq (⟨"NailRodsModel", "foggerTold", "(II)I"⟩, 8) := ⟨⟨by decide +kernel, by decide +kernel⟩, List.mem_of_getElem? (i := 508) (by decide +kernel), List.mem_of_getElem? (i := 593) (by decide +kernel), List.mem_of_getElem? (i := 594) (by decide +kernel)⟩
theorem lw_p30 : lw_okq (⟨"NailRodsModel", "nailersOf", "(I)I"⟩, 8) := ⟨⟨by decide +kernel, by decide +kernel⟩, List.mem_of_getElem? (i := 508) (by decide +kernel), List.mem_of_getElem? (i := 597) (by decide +kernel), List.mem_of_getElem? (i := 598) (by decide +kernel)⟩
theorem lw_p31 : lw_okq (⟨"NailRodsModel", "counted", "(I)I"⟩, 8) := ⟨⟨by decide +kernel, by decide +kernel⟩, List.mem_of_getElem? (i := 508) (by decide +kernel), List.mem_of_getElem? (i := 605) (by decide +kernel), List.mem_of_getElem? (i := 606) (by decide +kernel)⟩
def lw_privs_2 : List (MethodName × Nat) := [(⟨"NailRods$Nailer", "headFromHand", "(I)I"⟩, 14), (⟨"NailRods$Nailer", "store", "(I)V"⟩, 14), (⟨"NailRods$Trade", "reckonWeek", "()V"⟩, 4), (⟨"NailRods$Fogger", "buyBags", "(LNailRods$Nailer;)V"⟩, 6), (⟨"NailRods$Fogger", "collectDebt", "(LNailRods$Nailer;)V"⟩, 6), (⟨"NailRods$Fogger", "deliver", "()V"⟩, 6), (⟨"NailRods$Nailer", "copyFrom", "(LNailRods$Nailer;)V"⟩, 14), (⟨"NailRods$Nailer", "workHours", "(I)I"⟩, 14), (⟨"NailRods$Trade", "copyFrom", "(LNailRods$Trade;)V"⟩, 4), (⟨"NailRods$Fogger", "copyFrom", "(LNailRods$Fogger;)V"⟩, 6), (⟨"NailRodsModel", "no", "(I)I"⟩, 8), (⟨"NailRodsModel", "isThere", "(I)Z"⟩, 8), (⟨"NailRodsModel", "put", "(II)I"⟩, 8), (⟨"NailRodsModel", "foggerTold", "(II)I"⟩, 8), (⟨"NailRodsModel", "nailersOf", "(I)I"⟩, 8), (⟨"NailRodsModel", "counted", "(I)I"⟩, 8)]
theorem lw_r2 : ∀ q ∈ lw_privs_2, lw_okq q := List.forall_mem_cons.mpr ⟨lw_p16, List.forall_mem_cons.mpr ⟨lw_p17, List.forall_mem_cons.mpr ⟨lw_p18, List.forall_mem_cons.mpr ⟨lw_p19, List.forall_mem_cons.mpr ⟨lw_p20, List.forall_mem_cons.mpr ⟨lw_p21, List.forall_mem_cons.mpr ⟨lw_p22, List.forall_mem_cons.mpr ⟨lw_p23, List.forall_mem_cons.mpr ⟨lw_p24, List.forall_mem_cons.mpr ⟨lw_p25, List.forall_mem_cons.mpr ⟨lw_p26, List.forall_mem_cons.mpr ⟨lw_p27, List.forall_mem_cons.mpr ⟨lw_p28, List.forall_mem_cons.mpr ⟨lw_p29, List.forall_mem_cons.mpr ⟨lw_p30, List.forall_mem_cons.mpr ⟨lw_p31, fun _ h => absurd h List.not_mem_nil⟩⟩⟩⟩⟩⟩⟩⟩⟩⟩⟩⟩⟩⟩⟩⟩
theorem lw_p32 : lw_okq (⟨"NailRodsModel", "hot", "()I"⟩, 8) := ⟨⟨by decide +kernel, by decide +kernel⟩, List.mem_of_getElem? (i := 508) (by decide +kernel), List.mem_of_getElem? (i := 609) (by decide +kernel), List.mem_of_getElem? (i := 610) (by decide +kernel)⟩
theorem lw_p33 : lw_okq (⟨"NailRodsModel", "summed", "([I[II)I"⟩, 8) := ⟨⟨by decide +kernel, by decide +kernel⟩, List.mem_of_getElem? (i := 508) (by decide +kernel), List.mem_of_getElem? (i := 613) (by decide +kernel), List.mem_of_getElem? (i := 614) (by decide +kernel)⟩
theorem lw_p34 : lw_okq (⟨"NailRodsModel", "sum", "([II)I"⟩, 8) := ⟨⟨by decide +kernel, by decide +kernel⟩, List.mem_of_getElem? (i := 508) (by decide +kernel), List.mem_of_getElem? (i := 617) (by decide +kernel), List.mem_of_getElem? (i := 618) (by decide +kernel)⟩
theorem lw_p35 : lw_okq (⟨"NailRodsModel", "sumOfFour", "([II)I"⟩, 8) := ⟨⟨by decide +kernel, by decide +kernel⟩, List.mem_of_getElem? (i := 508) (by decide +kernel), List.mem_of_getElem? (i := 621) (by decide +kernel), List.mem_of_getElem? (i := 622) (by decide +kernel)⟩
theorem lw_p36 : lw_okq (⟨"NailRodsModel", "pass", "([I[II)I"⟩, 8) := ⟨⟨by decide +kernel, by decide +kernel⟩, List.mem_of_getElem? (i := 508) (by decide +kernel), List.mem_of_getElem? (i := 632) (by decide +kernel), List.mem_of_getElem? (i := 633) (by decide +kernel)⟩
theorem lw_p37 : lw_okq (⟨"NailRodsModel", "work", "([II)I"⟩, 8) := ⟨⟨by decide +kernel, by decide +kernel⟩, List.mem_of_getElem? (i := 508) (by decide +kernel), List.mem_of_getElem? (i := 636) (by decide +kernel), List.mem_of_getElem? (i := 637) (by decide +kernel)⟩
theorem lw_p38 : lw_okq (⟨"NailRodsModel", "hasIron", "([II)Z"⟩, 8) := ⟨⟨by decide +kernel, by decide +kernel⟩, List.mem_of_getElem? (i := 508) (by decide +kernel), List.mem_of_getElem? (i := 642) (by decide +kernel), List.mem_of_getElem? (i := 643) (by decide +kernel)⟩
theorem lw_p39 : lw_okq (⟨"NailRodsModel", "reckon", "([I[II[I)V"⟩, 8) := ⟨⟨by decide +kernel, by decide +kernel⟩, List.mem_of_getElem? (i := 508) (by decide +kernel), List.mem_of_getElem? (i := 648) (by decide +kernel), List.mem_of_getElem? (i := 649) (by decide +kernel)⟩
theorem lw_p40 : lw_okq (⟨"NailRodsModel", "lookAhead", "()V"⟩, 8) := ⟨⟨by decide +kernel, by decide +kernel⟩, List.mem_of_getElem? (i := 508) (by decide +kernel), List.mem_of_getElem? (i := 661) (by decide +kernel), List.mem_of_getElem? (i := 662) (by decide +kernel)⟩
theorem lw_p41 : lw_okq (⟨"NailRodsModel", "passAhead", "(I)V"⟩, 8) := ⟨⟨by decide +kernel, by decide +kernel⟩, List.mem_of_getElem? (i := 508) (by decide +kernel), List.mem_of_getElem? (i := 676) (by decide +kernel), List.mem_of_getElem? (i := 677) (by decide +kernel)⟩
theorem lw_p42 : lw_okq (⟨"NailRodsModel", "worthOf", "(III)I"⟩, 8) := ⟨⟨by decide +kernel, by decide +kernel⟩, List.mem_of_getElem? (i := 508) (by decide +kernel), List.mem_of_getElem? (i := 684) (by decide +kernel), List.mem_of_getElem? (i := 685) (by decide +kernel)⟩
theorem lw_p43 : lw_okq (⟨"NailRodsModel", "wealth", "(I)I"⟩, 8) := ⟨⟨by decide +kernel, by decide +kernel⟩, List.mem_of_getElem? (i := 508) (by decide +kernel), List.mem_of_getElem? (i := 692) (by decide +kernel), List.mem_of_getElem? (i := 693) (by decide +kernel)⟩
def lw_privs_3 : List (MethodName × Nat) := [(⟨"NailRodsModel", "hot", "()I"⟩, 8), (⟨"NailRodsModel", "summed", "([I[II)I"⟩, 8), (⟨"NailRodsModel", "sum", "([II)I"⟩, 8), (⟨"NailRodsModel", "sumOfFour", "([II)I"⟩, 8), (⟨"NailRodsModel", "pass", "([I[II)I"⟩, 8), (⟨"NailRodsModel", "work", "([II)I"⟩, 8), (⟨"NailRodsModel", "hasIron", "([II)Z"⟩, 8), (⟨"NailRodsModel", "reckon", "([I[II[I)V"⟩, 8), (⟨"NailRodsModel", "lookAhead", "()V"⟩, 8), (⟨"NailRodsModel", "passAhead", "(I)V"⟩, 8), (⟨"NailRodsModel", "worthOf", "(III)I"⟩, 8), (⟨"NailRodsModel", "wealth", "(I)I"⟩, 8)]
theorem lw_r3 : ∀ q ∈ lw_privs_3, lw_okq q := List.forall_mem_cons.mpr ⟨lw_p32, List.forall_mem_cons.mpr ⟨lw_p33, List.forall_mem_cons.mpr ⟨lw_p34, List.forall_mem_cons.mpr ⟨lw_p35, List.forall_mem_cons.mpr ⟨lw_p36, List.forall_mem_cons.mpr ⟨lw_p37, List.forall_mem_cons.mpr ⟨lw_p38, List.forall_mem_cons.mpr ⟨lw_p39, List.forall_mem_cons.mpr ⟨lw_p40, List.forall_mem_cons.mpr ⟨lw_p41, List.forall_mem_cons.mpr ⟨lw_p42, List.forall_mem_cons.mpr ⟨lw_p43, fun _ h => absurd h List.not_mem_nil⟩⟩⟩⟩⟩⟩⟩⟩⟩⟩⟩⟩
def lw_privs : List (MethodName × Nat) := lw_privs_1 ++ (lw_privs_2 ++ (lw_privs_3))
def lw_tbl : List Cond := k2_sels lw_privs ++ tables_1
theorem lw_privs_ok : ∀ q ∈ lw_privs, lw_okq q := by
  show ∀ q ∈ lw_privs_1 ++ (lw_privs_2 ++ (lw_privs_3)), lw_okq q
  exact List.forall_mem_append.mpr ⟨lw_r1, List.forall_mem_append.mpr ⟨lw_r2, lw_r3⟩⟩
/-- the streams that the claim lets the run draw from -/
abbrev lw_cs : List Choice := [Jvm.Choice.named "NaN.bits"]
theorem lw_bits : nanBits ∈ lw_cs := by first | decide | exact List.mem_cons_self | simp [lw_cs, nanBits]
-- ===== end of PART A; then your names; then what follows =====
end
section
/-! ===== BEGIN words of one list among another's, by their places ===== -/
theorem goodIn_r {big : List Cond} (ws : List Cond) (ps : List Nat) (hp : ws = ps.filterMap (fun i => big[i]?)) (h : ws.all goodWord = true) : GoodIn big ws := by
  intro w hw
  have h1 := List.all_eq_true.mp h w hw
  rw [hp] at hw
  obtain ⟨i, -, hi⟩ := List.mem_filterMap.mp hw
  have hm : w ∈ big := by first | exact List.mem_of_getElem? hi | exact List.getElem?_mem hi
  exact ⟨hm, good_of_word h1⟩
theorem goodIn_app {big a b : List Cond} (ha : GoodIn big a) (hb : GoodIn big b) : GoodIn big (a ++ b) := fun w h => (List.mem_append.mp h).elim (ha w) (hb w)
theorem goodIn_ca {big a b : List Cond} {c : Cond} (ha : GoodIn big (c :: a)) (hb : GoodIn big b) : GoodIn big (c :: (a ++ b)) := fun w h => (List.mem_cons.mp h).elim (fun e => ha w (List.mem_cons.mpr (Or.inl e))) (fun h => (List.mem_append.mp h).elim (fun h => ha w (List.mem_cons.mpr (Or.inr h))) (hb w))
theorem goodIn_sub {big ws : List Cond} (hm : ∀ w ∈ ws, w ∈ big) (h : ws.all goodWord = true) : GoodIn big ws := fun w hw => ⟨hm w hw, good_of_word (List.all_eq_true.mp h w hw)⟩
/-! ===== END ===== -/

/-! ===== BEGIN exceptions that leave a method, and their catching by the caller (launches without stack traces) ===== -/
section VXA
/-! The laws vx_back, vx_callV, vx_callS, vx_callSW, vx_throw0, vx_throwS follow proofs of the library, with one case more: JvmDerived/Free/Laws.lean (Back.of_free), Shelf42/LK1.lean (callV, callS), Shelf/KitTraced.lean (throwNew0V, throwNewS). -/
/-- where a method has thrown q: the class by its name, the cell, what was written, the world -/
def vx_T (XC : String → State → State → Prop) (st : State) (q : Addr) (t : State) (mc ms : Nat) (free : Addr → Prop) : Prop :=
  ∃ (E : String) (ce : Cell) (L : List Loc), XC E st t ∧ t.heap[q]? = some ce ∧ ce.vm = .none ∧ st.vm.findClass E = some ce.cls ∧ st.WarmedH t.vm ∧ st.sameButNew ({ t with vm := st.vm } : State) L mc ms ∧ ∀ z ∈ L, free z.base
def vx_Q (Qc : Array Value → State → Outcome → State → Prop) (XC : String → State → State → Prop) (mc ms : Nat) (free : Addr → Prop) : Array Value → State → Outcome → State → Prop := fun a st o t =>
  (Qc a st o t ∧ ∃ L, FrameEnd st o t L mc ms ∧ ∀ q ∈ L, free q.base) ∨ ∃ q, o = .threw q ∧ vx_T XC st q t mc ms free
/-- a callee that returns or throws -/
def vx_Met (l : Launch) (y : MethodName) (ws : List Cond) (rm : Room) (Pc : Array Value → State → Prop) (Qc : Array Value → State → Outcome → State → Prop) (XC : String → State → State → Prop) (mc ms : Nat) (free : Addr → Prop) : Prop :=
  MetFree l y (headSpec ws rm) Pc (fun _ _ _ _ _ => True) (vx_Q Qc XC mc ms free)
def vx_Post (XC : String → State → State → Prop) (mc ms : Nat) (free : Addr → Prop) : Pt → Array Value → Addr → Pt → Prop := fun A a q B =>
  ∃ (g : JFrame) (mk : MethodId) (t : State) (L : List Loc) (E : String) (ce : Cell), B.U.heap = t.heap ∧ B.U.vm = t.vm ∧ XC E (A.U.calling g mk a) t ∧ t.heap[q]? = some ce ∧ ce.vm = .none ∧ A.U.vm.findClass E = some ce.cls ∧ B.locs = A.locs ++ L ∧ (∀ z ∈ L, free z.base) ∧ B.cells = A.cells + mc ∧ B.slots = A.slots + ms
def vx_Back (l : Launch) (R : Room) (p : Program) (e : Env) (below : List Frame) (s : State) (sargs : Array Value) (y : MethodName) (len W9 : Nat)
    (Pre : Pt → Array Value → Prop) (Post : Pt → Array Value → Option Value → Pt → Prop) (PostX : Pt → Array Value → Addr → Pt → Prop) : Prop :=
  ∀ (m : MethodId) (meth : Method) (c : Code) (A : Pt) (g : JFrame) (ig : Instr) (mk : MethodId) (a : Array Value),
    Stand p l e R s m sargs below meth c A.U A.locs A.cells A.slots → g.method = m → g.locals.size = c.maxLocals → decode c.code g.pc = .ok (ig, len) →
    2 * g.monitorRoom + (g.stack.map fun v => v.category).sum ≤ W9 → A.U.methodNamed? y = some mk → Pre A a →
    (∃ (v : Option Value) (B : Pt), Stand p l e R s m sargs below meth c B.U B.locs B.cells B.slots ∧ Post A a v B ∧
      Steps p.tables e below (doInvoke e (A.U.setTop g) [] mk a).1 (B.U.setTop { g with pc := g.pc + len, stack := v.toList ++ g.stack })) ∨
    (∃ (q : Addr) (B : Pt), Stand p l e R s m sargs below meth c B.U B.locs B.cells B.slots ∧ PostX A a q B ∧
      Steps p.tables e below (doInvoke e (A.U.setTop g) [] mk a).1 ((B.U.setTop g).pushFrame (.throwing q)))
section Payer
variable {l : Launch} {R : Room} {p : Program} {e : Env} {below : List Frame} {s : State} {sargs : Array Value} {y : MethodName} {len W9 : Nat}
theorem vx_back {ws : List Cond} {rm : Room} {Pc : Array Value → State → Prop} {Qc : Array Value → State → Outcome → State → Prop} {XC : String → State → State → Prop} {mc ms : Nat} {free : Addr → Prop} {bytes : ByteArray} {maxL : Nat} {ret : Option FieldType}
    (hM : vx_Met l y ws rm Pc Qc XC mc ms free) (hblind : FrameBlind Pc) (hrc : rm.cells = mc) (hrs : rm.slots = ms)
    (hframes : rm.frames + 1 ≤ R.frames) (hlocals : W9 + (maxL + 11) + rm.locals ≤ R.locals)
    (hws : ∀ w ∈ ws, ∀ a' U, s.WarmedH U.vm → w.before a' U = true) (hcode : Cond.code y bytes maxL ret ∈ ws) (hinit : ∀ a' U, s.WarmedH U.vm → (Cond.initialized y.cls).before a' U = true) :
    vx_Back l R p e below s sargs y len W9 (PreOf R mc ms Pc) (PostOf Qc mc ms free) (vx_Post XC mc ms free) := by
  intro m meth c A g ig mk a X hg hsize hdg hW hn hp
  have h1 : (headSpec ws rm).pre.before a A.U = true := atoms_intro fun w hw => hws w hw _ _ X.warmed
  have h2 : (Cond.code y bytes maxL ret).before a A.U = true := hws _ hcode _ _ X.warmed
  have h3 : (Cond.initialized y.cls).before a A.U = true := hinit _ _ X.warmed
  have h4 : A.cells + (headSpec ws rm).room.cells ≤ R.cells := by rw [show (headSpec ws rm).room.cells = mc from hrc]; exact hp.1
  have h5 : A.slots + (headSpec ws rm).room.slots ≤ R.slots := by rw [show (headSpec ws rm).room.slots = ms from hrs]; exact hp.2.1
  have hPc : Pc a (A.U.calling g mk a) := hblind _ _ _ _ hp.2.2
  obtain ⟨U, Ls, c0, s0⟩ := A
  dsimp only [Pt.U, Pt.locs, Pt.cells, Pt.slots] at h1 h2 h3 h4 h5 X hn hPc ⊢
  obtain ⟨methY, cY, hmY, hcY, -, hlY, -, -, -, -⟩ := Cond.code_spec hn h2
  obtain ⟨kY, hkY, -⟩ := className_of_methodNamed hn
  have hinitY : kY.init = .initialized := Cond.initialized_spec (findClass_of_methodNamed hn) hkY h3
  have h : At U g.method c below := by rw [hg]; exact X.here
  have hlocals9 : W9 + (maxL + 11) + (headSpec ws rm).room.locals ≤ R.locals := hlocals
  have happ : (headSpec ws rm).appliesLoose y e.platform (U.calling g mk a) = true :=
    Spec.appliesLoose_calling (g := g) h hdg hn hkY hinitY
      (X.room_calling (g := g) (R' := (headSpec ws rm).room) hsize hmY hcY hframes (by rw [hlY]; omega) h4 h5) h1
  obtain ⟨mid, hmid⟩ := h.above
  have hfr : (U.setTop g).frames = (.java g :: mid) ++ below := by rw [State.frames_setTop' g h.top, hmid]; rfl
  obtain ⟨o, s₂, hsteps, -, hend, hq⟩ := Steps.callFree hM p X.admits X.cas X.clock (acts := []) hfr happ hPc trivial
  have hq' : vx_Q Qc XC mc ms free a (U.calling g mk a) o s₂ := hq
  rw [State.frames_setTop' g h.top] at hend
  obtain ⟨g₀, hg0⟩ := Option.isSome_iff_exists.mp h.top
  obtain ⟨r, hr⟩ := State.topJava?_eq_some.mp hg0
  have hr' : (({ U with heap := s₂.heap, slotsUsed := s₂.slotsUsed } : State).setVm s₂.vm).frames = .java g₀ :: r := hr
  rcases hq' with ⟨hqc, L, hfe, hL⟩ | ⟨q, rfl, E, ce, L, hx, hce, hcv, hcl, hW₂, hsm, hL⟩
  · obtain ⟨⟨v, rfl⟩, hW₂, e2, q2, q3, q4, q5, q6⟩ := id hfe
    have e3 : s₂ = ({ (U.calling g mk a).setFrames s₂.frames with heap := s₂.heap, slotsUsed := s₂.slotsUsed } : State).setVm s₂.vm := by
      have : s₂ = ({ s₂ with vm := (U.calling g mk a).vm } : State).setVm s₂.vm := rfl
      rw [e2] at this
      exact this
    obtain ⟨c₂, i₂, len₂, hc₂, hd₂, hf₂⟩ := hend
    have hW' : U.WarmedH s₂.vm := hW₂
    have hcc : c₂ = c := by
      have h1 : s₂.code? g.method = U.code? g.method := by
        rw [State.code?_eq, State.code?_eq, hW'.alike.method?]
      exact Option.some.inj (hc₂.symm.trans (h1.trans h.code))
    subst hcc
    have hlen : len₂ = len := by rw [hdg] at hd₂; cases hd₂; rfl
    subst hlen
    have hs₂ : s₂ = (({ U with heap := s₂.heap, slotsUsed := s₂.slotsUsed } : State).setVm s₂.vm).setTop { g with pc := g.pc + len₂, stack := v.toList ++ g.stack } := by
      refine e3.trans ?_
      rw [hf₂, State.calling_eq h.top, State.setFrames_setFrames, State.setTop_of_frames _ hr', hr]
      rfl
    have hsame : U.sameButNew ({ U with heap := s₂.heap, slotsUsed := s₂.slotsUsed } : State) L mc ms := by
      refine ⟨?_, q2, q3, q4, q5, q6⟩
      obtain ⟨t, ht, -⟩ := State.frames_cons hr
      show ({ U with heap := s₂.heap, slotsUsed := s₂.slotsUsed } : State) = { U.setFrames U.frames with heap := s₂.heap, slotsUsed := s₂.slotsUsed }
      rw [State.setFrames_self ht]
    subst hg
    refine Or.inl ⟨v, ⟨(({ U with heap := s₂.heap, slotsUsed := s₂.slotsUsed } : State).setVm s₂.vm), Ls ++ L, c0 + mc, s0 + ms⟩,
      ⟨X.admits, X.cas, X.clock, X.frames, X.room, X.hears, X.method, X.code, (X.here.setHeapUsed s₂.heap s₂.slotsUsed).setVm hW'.alike, X.tail, State.WarmedH.trans X.warmed hW', X.limits, X.bytes, X.same.trans (hsame.setVm s.vm)⟩,
      ⟨g, mk, s₂, L, rfl, rfl, hqc, rfl, hL, rfl, rfl⟩, ?_⟩
    show Steps p.tables e below _ ((({ U with heap := s₂.heap, slotsUsed := s₂.slotsUsed } : State).setVm s₂.vm).setTop { g with pc := g.pc + len₂, stack := v.toList ++ g.stack })
    rw [← hs₂]
    exact hsteps
  · obtain ⟨e2, q2, q3, q4, q5, q6⟩ := id hsm
    have e3 : s₂ = ({ (U.calling g mk a).setFrames s₂.frames with heap := s₂.heap, slotsUsed := s₂.slotsUsed } : State).setVm s₂.vm := by
      have : s₂ = ({ s₂ with vm := (U.calling g mk a).vm } : State).setVm s₂.vm := rfl
      rw [e2] at this
      exact this
    have hf₂ : s₂.frames = .throwing q :: .java g :: U.frames.tail := hend
    have hW' : U.WarmedH s₂.vm := hW₂
    have hs₂ : s₂ = ((({ U with heap := s₂.heap, slotsUsed := s₂.slotsUsed } : State).setVm s₂.vm).setTop g).pushFrame (.throwing q) := by
      refine e3.trans ?_
      rw [hf₂, State.calling_eq h.top, State.setFrames_setFrames, State.pushFrame, State.frames_setTop _ hr', State.setTop_of_frames _ hr', State.setFrames_setFrames, hr]
      rfl
    have hsame : U.sameButNew ({ U with heap := s₂.heap, slotsUsed := s₂.slotsUsed } : State) L mc ms := by
      refine ⟨?_, q2, q3, q4, q5, q6⟩
      obtain ⟨t, ht, -⟩ := State.frames_cons hr
      show ({ U with heap := s₂.heap, slotsUsed := s₂.slotsUsed } : State) = { U.setFrames U.frames with heap := s₂.heap, slotsUsed := s₂.slotsUsed }
      rw [State.setFrames_self ht]
    subst hg
    refine Or.inr ⟨q, ⟨(({ U with heap := s₂.heap, slotsUsed := s₂.slotsUsed } : State).setVm s₂.vm), Ls ++ L, c0 + mc, s0 + ms⟩,
      ⟨X.admits, X.cas, X.clock, X.frames, X.room, X.hears, X.method, X.code, (X.here.setHeapUsed s₂.heap s₂.slotsUsed).setVm hW'.alike, X.tail, State.WarmedH.trans X.warmed hW', X.limits, X.bytes, X.same.trans (hsame.setVm s.vm)⟩,
      ⟨g, mk, s₂, L, E, ce, rfl, rfl, hx, hce, hcv, hcl, rfl, hL, rfl, rfl⟩, ?_⟩
    show Steps p.tables e below _ (((({ U with heap := s₂.heap, slotsUsed := s₂.slotsUsed } : State).setVm s₂.vm).setTop g).pushFrame (.throwing q))
    rw [← hs₂]
    exact hsteps
end Payer
section Calls
variable {p : Program} {l : Launch} {e : Env} {R : Room} {s : State} {m : MethodId} {args : Array Value} {below : List Frame} {meth : Method} {c : Code} {T : State} {locs : List Loc} {cells slots : Nat}
theorem vx_callV (X : Stand p l e R s m args below meth c T locs cells slots) (hexec : p.tables.exec = Jvm.exec) {own C : String} {index : Nat} {y : MethodName} {bytes : ByteArray} {maxL : Nat} {ret : Option FieldType}
    (hown : s.vm.findClass own = some m.cls) (hlink : (Cond.methodLink own index y).before args s = true) (hinst : (Cond.instanceMethod y).before args s = true) (hsel : (Cond.selects C y y).before args s = true)
    (hcode : (Cond.code y bytes maxL ret).before args s = true) (hy : y.cls ≠ "java/lang/invoke/MethodHandle" ∧ y.cls ≠ "java/lang/invoke/VarHandle")
    {W9 : Nat} {Pre : Pt → Array Value → Prop} {Post : Pt → Array Value → Option Value → Pt → Prop} {PostX : Pt → Array Value → Addr → Pt → Prop} (hK : vx_Back l R p e below s args y 3 W9 Pre Post PostX)
    {b : Addr} {cellB : Cell} (hcell : T.heap[b]? = some cellB) (hobj : cellB.vm.isStatics = false) (hcls : s.vm.findClass C = some cellB.cls)
    {g : JFrame} (hg : g.method = m) (hsize : g.locals.size = c.maxLocals) {argsL rest : List Value} (hlen : ∀ sig, parseMethodDescriptor y.desc = some sig → argsL.length = sig.parameters.length)
    (hstack : g.stack = argsL.reverse ++ .ref b :: rest) (hW : 2 * g.monitorRoom + (rest.map fun v => v.category).sum ≤ W9) (hdg : decode c.code g.pc = .ok (.invokevirtual index, 3))
    (hpre : ∀ vm₁, s.WarmedH vm₁ → Pre ⟨T.setVm vm₁, locs, cells, slots⟩ (Value.ref b :: argsL).toArray) :
    (∃ (v : Option Value) (vm₁ : Vm) (B : Pt), s.WarmedH vm₁ ∧ Stand p l e R s m args below meth c B.U B.locs B.cells B.slots ∧ Post ⟨T.setVm vm₁, locs, cells, slots⟩ (Value.ref b :: argsL).toArray v B ∧
      ∀ target, Steps p.tables e below (B.U.setTop { g with pc := g.pc + 3, stack := v.toList ++ rest }) target → Steps p.tables e below (T.setTop g) target) ∨
    (∃ (q : Addr) (vm₁ : Vm) (B : Pt), s.WarmedH vm₁ ∧ Stand p l e R s m args below meth c B.U B.locs B.cells B.slots ∧ PostX ⟨T.setVm vm₁, locs, cells, slots⟩ (Value.ref b :: argsL).toArray q B ∧
      Steps p.tables e below (T.setTop g) ((B.U.setTop { g with stack := rest }).pushFrame (.throwing q))) := by
  obtain ⟨mk, methM, hnamed, hmethM, hstM, habM⟩ := Cond.instanceMethod_spec hinst
  obtain ⟨methM', cM, hmethM', -, -, -, -, -, -, hsigM⟩ := Cond.code_spec hnamed hcode
  cases hmethM.symm.trans hmethM'
  obtain ⟨c2, r2, m2, q1, q2, q3, q4, kP, hkP, hkPi⟩ := Cond.selects_spec hsel
  cases hcls.symm.trans q1
  cases (State.methodFound?_of_named hnamed hy).symm.trans q2
  cases hnamed.symm.trans q3
  have hselP : selectMethod e.platform s.vm cellB.cls mk = .method mk := by rw [Launch.admits_selectMethod X.admits]; exact q4
  obtain ⟨vm₁, X₁, hstep₁⟩ := X.invokevirtual hexec hown hlink hnamed hmethM hstM hkP hkPi hy (a := b) (cell := cellB) hcell
    (fun z h => by rw [h] at hobj; cases hobj) hselP hmethM habM hkP hkPi (g := g) hg (argsL := argsL) (rest := rest) (hlen _ hsigM) hstack hdg
  rcases hK m meth c ⟨T.setVm vm₁, locs, cells, slots⟩ { g with stack := rest } (.invokevirtual index) mk (Value.ref b :: argsL).toArray X₁ hg hsize hdg hW (X₁.named hnamed) (hpre vm₁ X₁.warmed) with ⟨v, B, X', hpost, hsteps⟩ | ⟨q, B, X', hpost, hsteps⟩
  · exact Or.inl ⟨v, vm₁, B, X₁.warmed, X', hpost, fun target h => hstep₁ _ fun acts => by rw [doInvoke_state]; exact hsteps.trans h⟩
  · exact Or.inr ⟨q, vm₁, B, X₁.warmed, X', hpost, hstep₁ _ fun acts => by rw [doInvoke_state]; exact hsteps⟩
theorem vx_callS (X : Stand p l e R s m args below meth c T locs cells slots) (hexec : p.tables.exec = Jvm.exec) {own : String} {index : Nat} {y : MethodName} {bytes : ByteArray} {maxL : Nat} {ret : Option FieldType}
    (hown : s.vm.findClass own = some m.cls) (hlink : (Cond.methodLink own index y).before args s = true) (hstat : (Cond.static y).before args s = true) (hinit : (Cond.initialized y.cls).before args s = true)
    (hcode : (Cond.code y bytes maxL ret).before args s = true) (hy : y.cls ≠ "java/lang/invoke/MethodHandle" ∧ y.cls ≠ "java/lang/invoke/VarHandle")
    {W9 : Nat} {Pre : Pt → Array Value → Prop} {Post : Pt → Array Value → Option Value → Pt → Prop} {PostX : Pt → Array Value → Addr → Pt → Prop} (hK : vx_Back l R p e below s args y 3 W9 Pre Post PostX)
    {g : JFrame} (hg : g.method = m) (hsize : g.locals.size = c.maxLocals) {argsL rest : List Value} (hlen : ∀ sig, parseMethodDescriptor y.desc = some sig → argsL.length = sig.parameters.length)
    (hstack : g.stack = argsL.reverse ++ rest) (hW : 2 * g.monitorRoom + (rest.map fun v => v.category).sum ≤ W9) (hdg : decode c.code g.pc = .ok (.invokestatic index, 3))
    (hpre : ∀ vm₁, s.WarmedH vm₁ → Pre ⟨T.setVm vm₁, locs, cells, slots⟩ argsL.toArray) :
    (∃ (v : Option Value) (vm₁ : Vm) (B : Pt), s.WarmedH vm₁ ∧ Stand p l e R s m args below meth c B.U B.locs B.cells B.slots ∧ Post ⟨T.setVm vm₁, locs, cells, slots⟩ argsL.toArray v B ∧
      ∀ target, Steps p.tables e below (B.U.setTop { g with pc := g.pc + 3, stack := v.toList ++ rest }) target → Steps p.tables e below (T.setTop g) target) ∨
    (∃ (q : Addr) (vm₁ : Vm) (B : Pt), s.WarmedH vm₁ ∧ Stand p l e R s m args below meth c B.U B.locs B.cells B.slots ∧ PostX ⟨T.setVm vm₁, locs, cells, slots⟩ argsL.toArray q B ∧
      Steps p.tables e below (T.setTop g) ((B.U.setTop { g with stack := rest }).pushFrame (.throwing q))) := by
  obtain ⟨mk, hnamed⟩ := Cond.code_named hcode
  obtain ⟨methM, cM, hmethM, -, -, -, -, -, -, hsigM⟩ := Cond.code_spec hnamed hcode
  have hstatic : methM.isStatic = true := Cond.static_spec hnamed hmethM hstat
  obtain ⟨kP, hkP, -⟩ := className_of_methodNamed hnamed
  have hinitP : kP.init = .initialized := Cond.initialized_spec (findClass_of_methodNamed hnamed) hkP hinit
  obtain ⟨vm₁, X₁, hstep₁⟩ := X.invokestatic hexec hown hlink hnamed hmethM hstatic hkP hinitP hy (g := g) hg (argsL := argsL) (rest := rest) (hlen _ hsigM) hstack hdg
  rcases hK m meth c ⟨T.setVm vm₁, locs, cells, slots⟩ { g with stack := rest } (.invokestatic index) mk argsL.toArray X₁ hg hsize hdg hW (X₁.named hnamed) (hpre vm₁ X₁.warmed) with ⟨v, B, X', hpost, hsteps⟩ | ⟨q, B, X', hpost, hsteps⟩
  · exact Or.inl ⟨v, vm₁, B, X₁.warmed, X', hpost, fun target h => hstep₁ _ fun acts => by rw [doInvoke_state]; exact hsteps.trans h⟩
  · exact Or.inr ⟨q, vm₁, B, X₁.warmed, X', hpost, hstep₁ _ fun acts => by rw [doInvoke_state]; exact hsteps⟩
end Calls
theorem vx_cls {s : State} {T : State} {vm₁ : Vm} {E : String} {k : ClassId} (hW : s.WarmedH vm₁) (h : (T.setVm vm₁).vm.findClass E = some k) : s.vm.findClass E = some k := by
  have h1 : vm₁.findClass E = some k := h
  rw [hW.alike.findClass] at h1
  exact h1
/-- the method's frame g, with q thrown over it -/
def vx_W (p : Program) (l : Launch) (e : Env) (R : Room) (s : State) (m : MethodId) (args : Array Value) (below : List Frame) (meth : Method) (c : Code) (H : Heap) (locs : List Loc) (cells slots : Nat) (Q : State → Prop) (g : JFrame) (q : Addr) : Prop :=
  ∀ T : State, T.heap = H → Stand p l e R s m args below meth c T locs cells slots → ∃ t, Steps p.tables e below ((T.setTop g).pushFrame (.throwing q)) t ∧ Q t
def vx_Run (p : Program) (l : Launch) (e : Env) (R : Room) (s : State) (m : MethodId) (args : Array Value) (below : List Frame) (meth : Method) (c : Code) (H : Heap) (locs : List Loc) (cells slots mc ms : Nat) (g : JFrame) (rest : List Value) (Qa : State → Outcome → State → Prop) (XC : String → State → State → Prop) (free : Addr → Prop) : Prop :=
  ∀ T : State, T.heap = H → Stand p l e R s m args below meth c T locs cells slots →
    (∃ (v : Option Value) (st₀ t T' : State) (L : List Loc), st₀.heap = H ∧ Stand p l e R s m args below meth c T' (locs ++ L) (cells + mc) (slots + ms) ∧ (∀ q ∈ L, free q.base) ∧ T'.heap = t.heap ∧ T'.vm = t.vm ∧ Qa st₀ (.returned v) t ∧
      Goes p e below T g T' { g with pc := g.pc + 3, stack := v.toList ++ rest }) ∨
    (∃ (q : Addr) (st₀ t T' : State) (L : List Loc) (E : String) (ce : Cell), st₀.heap = H ∧ Stand p l e R s m args below meth c T' (locs ++ L) (cells + mc) (slots + ms) ∧ (∀ z ∈ L, free z.base) ∧ T'.heap = t.heap ∧ T'.vm = t.vm ∧ XC E st₀ t ∧ t.heap[q]? = some ce ∧ ce.vm = .none ∧ s.vm.findClass E = some ce.cls ∧
      Steps p.tables e below (T.setTop g) ((T'.setTop { g with stack := rest }).pushFrame (.throwing q)))
def vx_X {S : Type} (px : S → Prop) (B : String → S → State → Prop) (A : Nat → Prop) : String → State → State → Prop := fun E st t => ∃ u : S, px u ∧ B E u t ∧ va_F A st t
section Runs
variable {p : Program} {l : Launch} {e : Env} {R : Room} {s : State} {m : MethodId} {args : Array Value} {below : List Frame} {meth : Method} {c : Code} {H : Heap} {locs : List Loc} {cells slots : Nat}
variable {y : MethodName} {bytes cc : ByteArray} {maxL nL mc ms n index : Nat} {ret : Option FieldType} {ws : List Cond} {rm : Room} {Pc : Array Value → State → Prop} {Qc : Array Value → State → Outcome → State → Prop} {XC : String → State → State → Prop} {free : Addr → Prop} {Ts : List Cond} {own C : String} {b : Addr} {As rest : List Value} {g : JFrame}
theorem vx_callBack (cb : CallB R s args own index y bytes maxL ret ws rm mc ms n) (hM : vx_Met l y ws rm Pc Qc XC mc ms free) (hbl : FrameBlind Pc) : vx_Back l R p e below s args y 3 8 (PreOf R mc ms Pc) (PostOf Qc mc ms free) (vx_Post XC mc ms free) := by
  obtain ⟨hrc, hrs, hfr, hlo, hws, hcw, -, hini, -⟩ := cb
  exact vx_back (bytes := bytes) (maxL := maxL) (ret := ret) hM hbl hrc hrs hfr hlo hws hcw (fun a' U hW => word_at hW (Or.inl (by first | rfl | simp [Cond.onTables, Cond.keeps, Cond.steady])) hini)
theorem vx_runV (S : CallFix p m c cc nL s args Ts own) (hM : vx_Met l y ws rm Pc Qc XC mc ms free) (cw : CallW R s args own C index y bytes maxL ret ws rm mc ms n) (hp : PreV s H C b Pc As)
    (hg : g.method = m) (hn : As.length = n) (hsize : g.locals.size = nL) (hstack : g.stack = As.reverse ++ .ref b :: rest) (hW : 2 * g.monitorRoom + (rest.map fun v => v.category).sum ≤ 8) (hdg : decode cc g.pc = .ok (.invokevirtual index, 3)) (hf : cells + mc ≤ R.cells ∧ slots + ms ≤ R.slots) :
    vx_Run p l e R s m args below meth c H locs cells slots mc ms g rest (Qc (Value.ref b :: As).toArray) XC free := by
  have hK : vx_Back l R p e below s args y 3 8 (PreOf R mc ms Pc) (PostOf Qc mc ms free) (vx_Post XC mc ms free) := vx_callBack cw.1 hM hp.1
  obtain ⟨⟨-, -, -, -, -, -, hcode, -, hy, hlen, hl⟩, hin, hse⟩ := cw
  obtain ⟨hx, hb, hml, ho, -⟩ := S
  obtain ⟨-, ⟨cellB, hcB, hoB, hclB⟩, hPc⟩ := hp
  intro T hT X
  rcases vx_callV X hx (C := C) (bytes := bytes) (maxL := maxL) (ret := ret) ho hl hin hse hcode hy hK (by rw [hT]; exact hcB) hoB hclB hg (hsize.trans hml.symm) (argsL := As) (rest := rest) (fun sig h => hn.trans (hlen sig h)) hstack hW (by rw [hb]; exact hdg)
    (fun vm₁ hW₁ => ⟨hf.1, hf.2, hPc (T.setVm vm₁) hT hW₁⟩) with ⟨v, vm₁, ⟨U', l2, c2, s2⟩, hW₁, X', ⟨g', mk, t, L, e1, e2, hq, h1, hL, h2, h3⟩, st⟩ | ⟨q, vm₁, ⟨U', l2, c2, s2⟩, hW₁, X', ⟨g', mk, t, L, E, ce, e1, e2, hq, hce, hcv, hcl, h1, hL, h2, h3⟩, st⟩
  · dsimp only [Pt.U, Pt.locs, Pt.cells, Pt.slots] at X' e1 e2 h1 h2 h3 st
    subst h1; subst h2; subst h3
    exact Or.inl ⟨v, (T.setVm vm₁).calling g' mk (Value.ref b :: As).toArray, t, U', L, hT, X', hL, e1, e2, hq, st⟩
  · dsimp only [Pt.U, Pt.locs, Pt.cells, Pt.slots] at X' e1 e2 h1 h2 h3 st hcl
    subst h1; subst h2; subst h3
    exact Or.inr ⟨q, (T.setVm vm₁).calling g' mk (Value.ref b :: As).toArray, t, U', L, E, ce, hT, X', hL, e1, e2, hq, hce, hcv, vx_cls hW₁ hcl, st⟩
theorem vx_runS (S : CallFix p m c cc nL s args Ts own) (hM : vx_Met l y ws rm Pc Qc XC mc ms free) (cw : CallB R s args own index y bytes maxL ret ws rm mc ms n ∧ (Cond.static y).before args s = true) (hp : PreS s H Pc As)
    (hg : g.method = m) (hn : As.length = n) (hsize : g.locals.size = nL) (hstack : g.stack = As.reverse ++ rest) (hW : 2 * g.monitorRoom + (rest.map fun v => v.category).sum ≤ 8) (hdg : decode cc g.pc = .ok (.invokestatic index, 3)) (hf : cells + mc ≤ R.cells ∧ slots + ms ≤ R.slots) :
    vx_Run p l e R s m args below meth c H locs cells slots mc ms g rest (Qc As.toArray) XC free := by
  have hK : vx_Back l R p e below s args y 3 8 (PreOf R mc ms Pc) (PostOf Qc mc ms free) (vx_Post XC mc ms free) := vx_callBack cw.1 hM hp.1
  obtain ⟨⟨-, -, -, -, -, -, hcode, hini, hy, hlen, hl⟩, hstt⟩ := cw
  obtain ⟨hx, hb, hml, ho, -⟩ := S
  intro T hT X
  rcases vx_callS X hx (bytes := bytes) (maxL := maxL) (ret := ret) ho hl hstt hini hcode hy hK hg (hsize.trans hml.symm) (argsL := As) (rest := rest) (fun sig h => hn.trans (hlen sig h)) hstack hW (by rw [hb]; exact hdg)
    (fun vm₁ hW₁ => ⟨hf.1, hf.2, hp.2 (T.setVm vm₁) hT hW₁⟩) with ⟨v, vm₁, ⟨U', l2, c2, s2⟩, hW₁, X', ⟨g', mk, t, L, e1, e2, hq, h1, hL, h2, h3⟩, st⟩ | ⟨q, vm₁, ⟨U', l2, c2, s2⟩, hW₁, X', ⟨g', mk, t, L, E, ce, e1, e2, hq, hce, hcv, hcl, h1, hL, h2, h3⟩, st⟩
  · dsimp only [Pt.U, Pt.locs, Pt.cells, Pt.slots] at X' e1 e2 h1 h2 h3 st
    subst h1; subst h2; subst h3
    exact Or.inl ⟨v, (T.setVm vm₁).calling g' mk As.toArray, t, U', L, hT, X', hL, e1, e2, hq, st⟩
  · dsimp only [Pt.U, Pt.locs, Pt.cells, Pt.slots] at X' e1 e2 h1 h2 h3 st hcl
    subst h1; subst h2; subst h3
    exact Or.inr ⟨q, (T.setVm vm₁).calling g' mk As.toArray, t, U', L, E, ce, hT, X', hL, e1, e2, hq, hce, hcv, vx_cls hW₁ hcl, st⟩
end Runs
section Rows
variable {p : Program} {l : Launch} {e : Env} {R : Room} {s : State} {m : MethodId} {args : Array Value} {below : List Frame} {meth : Method} {c : Code} {H : Heap} {locs : List Loc} {cells slots : Nat} {Q : State → Prop}
variable {mc ms : Nat} {free : Addr → Prop} {A0 A1 : Nat → Prop} {H0 : Heap} {a : Array Value} {pc : Nat} {ls : Array Slot} {st0 rest : List Value}
theorem vx_keep {st₀ t T' : State} {L : List Loc} (h0 : st₀.heap = H) (e1 : T'.heap = t.heap) (hS : va_S A0 H0 H locs) (hA : ∀ q, q < H.size → A1 q → A0 q) (hf : ∀ q, free q → A0 q) (hL : ∀ q ∈ L, free q.base) (hF : va_F A1 st₀ t) :
    H.size ≤ T'.heap.size ∧ (∀ q : Nat, q < H.size → ¬ A1 q → T'.heap[q]? = H[q]?) ∧ va_S A0 H0 T'.heap (locs ++ L) := by
  obtain ⟨hz, hk⟩ := hF
  rw [h0] at hz hk
  exact ⟨by rw [e1]; exact hz, fun q h1 h2 => by rw [e1]; exact hk q h1 h2,
    ⟨Nat.le_trans hS.1 (by rw [e1]; exact hz), fun q h1 h2 => by rw [e1, hk q (Nat.lt_of_lt_of_le h1 hS.1) (fun z => h2 (hA q (Nat.lt_of_lt_of_le h1 hS.1) z))]; exact hS.2.1 q h1 h2, fun q hq => by
      rcases List.mem_append.mp hq with h | h
      · exact hS.2.2 q h
      · exact hf _ (hL q h)⟩⟩
theorem vx_calli {S SX : Type} {post : Int32 → S → Prop} {px : SX → Prop} {B : S → State → Prop} {BX : String → SX → State → Prop} {AX : Nat → Prop} (hr : vx_Run p l e R s m args below meth c H locs cells slots mc ms (F0 m pc ls st0) rest (va_Qi post B A1 a) (vx_X px BX AX) free) (hS : va_S A0 H0 H locs) (hA : ∀ q, q < H.size → A1 q → A0 q) (hf : ∀ q, free q → A0 q) (hAX : ∀ q, q < H.size → AX q → A0 q)
    (kx : ∀ (E : String) (ce : Cell) (q9 : Addr) (u : SX) (t : State) (H1 : Heap) (locs1 : List Loc), t.heap = H1 → s.vm.Alike t.vm → px u → BX E u t → H.size ≤ H1.size → (∀ q : Nat, q < H.size → ¬ AX q → H1[q]? = H[q]?) → va_S A0 H0 H1 locs1 → H1[q9]? = some ce → ce.vm = .none → s.vm.findClass E = some ce.cls → vx_W p l e R s m args below meth c H1 locs1 (cells + mc) (slots + ms) Q (F0 m pc ls rest) q9)
    (kk : ∀ (r : Int32) (u : S) (t : State) (H1 : Heap) (locs1 : List Loc), t.heap = H1 → s.vm.Alike t.vm → post r u → B u t → H.size ≤ H1.size → (∀ q : Nat, q < H.size → ¬ A1 q → H1[q]? = H[q]?) → va_S A0 H0 H1 locs1 → W p l e R s m args below meth c H1 locs1 (cells + mc) (slots + ms) Q (F0 m (pc + 3) ls (.int r :: rest))) : W p l e R s m args below meth c H locs cells slots Q (F0 m pc ls st0) := by
  intro T hT X
  rcases hr T hT X with ⟨v, st₀, t, T', L, h0, X', hL, e1, e2, ⟨⟨r, u, hv, hp, hb⟩, hF⟩, st⟩ | ⟨q, st₀, t, T', L, E, ce, h0, X', hL, e1, e2, ⟨u, hp, hb, hF⟩, hce, hcv, hcl, st⟩
  · cases hv
    obtain ⟨k1, k2, k3⟩ := vx_keep h0 e1 hS hA hf hL hF
    obtain ⟨t2, a1, b1⟩ := kk r u t T'.heap (locs ++ L) e1.symm (by rw [← e2]; exact X'.warmed.alike) hp hb k1 k2 k3 T' rfl X'
    exact ⟨t2, st t2 a1, b1⟩
  · obtain ⟨k1, k2, k3⟩ := vx_keep h0 e1 hS hAX hf hL hF
    obtain ⟨t2, a1, b1⟩ := kx E ce q u t T'.heap (locs ++ L) e1.symm (by rw [← e2]; exact X'.warmed.alike) hp hb k1 k2 k3 (by rw [e1]; exact hce) hcv hcl T' rfl X'
    exact ⟨t2, st.trans a1, b1⟩
theorem vx_calll {S SX : Type} {post : Int64 → S → Prop} {px : SX → Prop} {B : S → State → Prop} {BX : String → SX → State → Prop} {AX : Nat → Prop} (hr : vx_Run p l e R s m args below meth c H locs cells slots mc ms (F0 m pc ls st0) rest (va_Ql post B A1 a) (vx_X px BX AX) free) (hS : va_S A0 H0 H locs) (hA : ∀ q, q < H.size → A1 q → A0 q) (hf : ∀ q, free q → A0 q) (hAX : ∀ q, q < H.size → AX q → A0 q)
    (kx : ∀ (E : String) (ce : Cell) (q9 : Addr) (u : SX) (t : State) (H1 : Heap) (locs1 : List Loc), t.heap = H1 → s.vm.Alike t.vm → px u → BX E u t → H.size ≤ H1.size → (∀ q : Nat, q < H.size → ¬ AX q → H1[q]? = H[q]?) → va_S A0 H0 H1 locs1 → H1[q9]? = some ce → ce.vm = .none → s.vm.findClass E = some ce.cls → vx_W p l e R s m args below meth c H1 locs1 (cells + mc) (slots + ms) Q (F0 m pc ls rest) q9)
    (kk : ∀ (r : Int64) (u : S) (t : State) (H1 : Heap) (locs1 : List Loc), t.heap = H1 → s.vm.Alike t.vm → post r u → B u t → H.size ≤ H1.size → (∀ q : Nat, q < H.size → ¬ A1 q → H1[q]? = H[q]?) → va_S A0 H0 H1 locs1 → W p l e R s m args below meth c H1 locs1 (cells + mc) (slots + ms) Q (F0 m (pc + 3) ls (.long r :: rest))) : W p l e R s m args below meth c H locs cells slots Q (F0 m pc ls st0) := by
  intro T hT X
  rcases hr T hT X with ⟨v, st₀, t, T', L, h0, X', hL, e1, e2, ⟨⟨r, u, hv, hp, hb⟩, hF⟩, st⟩ | ⟨q, st₀, t, T', L, E, ce, h0, X', hL, e1, e2, ⟨u, hp, hb, hF⟩, hce, hcv, hcl, st⟩
  · cases hv
    obtain ⟨k1, k2, k3⟩ := vx_keep h0 e1 hS hA hf hL hF
    obtain ⟨t2, a1, b1⟩ := kk r u t T'.heap (locs ++ L) e1.symm (by rw [← e2]; exact X'.warmed.alike) hp hb k1 k2 k3 T' rfl X'
    exact ⟨t2, st t2 a1, b1⟩
  · obtain ⟨k1, k2, k3⟩ := vx_keep h0 e1 hS hAX hf hL hF
    obtain ⟨t2, a1, b1⟩ := kx E ce q u t T'.heap (locs ++ L) e1.symm (by rw [← e2]; exact X'.warmed.alike) hp hb k1 k2 k3 (by rw [e1]; exact hce) hcv hcl T' rfl X'
    exact ⟨t2, st.trans a1, b1⟩
theorem vx_callf {S SX : Type} {post : UInt32 → S → Prop} {px : SX → Prop} {B : S → State → Prop} {BX : String → SX → State → Prop} {AX : Nat → Prop} (hr : vx_Run p l e R s m args below meth c H locs cells slots mc ms (F0 m pc ls st0) rest (va_Qf post B A1 a) (vx_X px BX AX) free) (hS : va_S A0 H0 H locs) (hA : ∀ q, q < H.size → A1 q → A0 q) (hf : ∀ q, free q → A0 q) (hAX : ∀ q, q < H.size → AX q → A0 q)
    (kx : ∀ (E : String) (ce : Cell) (q9 : Addr) (u : SX) (t : State) (H1 : Heap) (locs1 : List Loc), t.heap = H1 → s.vm.Alike t.vm → px u → BX E u t → H.size ≤ H1.size → (∀ q : Nat, q < H.size → ¬ AX q → H1[q]? = H[q]?) → va_S A0 H0 H1 locs1 → H1[q9]? = some ce → ce.vm = .none → s.vm.findClass E = some ce.cls → vx_W p l e R s m args below meth c H1 locs1 (cells + mc) (slots + ms) Q (F0 m pc ls rest) q9)
    (kk : ∀ (r : UInt32) (u : S) (t : State) (H1 : Heap) (locs1 : List Loc), t.heap = H1 → s.vm.Alike t.vm → post r u → B u t → H.size ≤ H1.size → (∀ q : Nat, q < H.size → ¬ A1 q → H1[q]? = H[q]?) → va_S A0 H0 H1 locs1 → W p l e R s m args below meth c H1 locs1 (cells + mc) (slots + ms) Q (F0 m (pc + 3) ls (.float r :: rest))) : W p l e R s m args below meth c H locs cells slots Q (F0 m pc ls st0) := by
  intro T hT X
  rcases hr T hT X with ⟨v, st₀, t, T', L, h0, X', hL, e1, e2, ⟨⟨r, u, hv, hp, hb⟩, hF⟩, st⟩ | ⟨q, st₀, t, T', L, E, ce, h0, X', hL, e1, e2, ⟨u, hp, hb, hF⟩, hce, hcv, hcl, st⟩
  · cases hv
    obtain ⟨k1, k2, k3⟩ := vx_keep h0 e1 hS hA hf hL hF
    obtain ⟨t2, a1, b1⟩ := kk r u t T'.heap (locs ++ L) e1.symm (by rw [← e2]; exact X'.warmed.alike) hp hb k1 k2 k3 T' rfl X'
    exact ⟨t2, st t2 a1, b1⟩
  · obtain ⟨k1, k2, k3⟩ := vx_keep h0 e1 hS hAX hf hL hF
    obtain ⟨t2, a1, b1⟩ := kx E ce q u t T'.heap (locs ++ L) e1.symm (by rw [← e2]; exact X'.warmed.alike) hp hb k1 k2 k3 (by rw [e1]; exact hce) hcv hcl T' rfl X'
    exact ⟨t2, st.trans a1, b1⟩
theorem vx_calld {S SX : Type} {post : UInt64 → S → Prop} {px : SX → Prop} {B : S → State → Prop} {BX : String → SX → State → Prop} {AX : Nat → Prop} (hr : vx_Run p l e R s m args below meth c H locs cells slots mc ms (F0 m pc ls st0) rest (va_Qd post B A1 a) (vx_X px BX AX) free) (hS : va_S A0 H0 H locs) (hA : ∀ q, q < H.size → A1 q → A0 q) (hf : ∀ q, free q → A0 q) (hAX : ∀ q, q < H.size → AX q → A0 q)
    (kx : ∀ (E : String) (ce : Cell) (q9 : Addr) (u : SX) (t : State) (H1 : Heap) (locs1 : List Loc), t.heap = H1 → s.vm.Alike t.vm → px u → BX E u t → H.size ≤ H1.size → (∀ q : Nat, q < H.size → ¬ AX q → H1[q]? = H[q]?) → va_S A0 H0 H1 locs1 → H1[q9]? = some ce → ce.vm = .none → s.vm.findClass E = some ce.cls → vx_W p l e R s m args below meth c H1 locs1 (cells + mc) (slots + ms) Q (F0 m pc ls rest) q9)
    (kk : ∀ (r : UInt64) (u : S) (t : State) (H1 : Heap) (locs1 : List Loc), t.heap = H1 → s.vm.Alike t.vm → post r u → B u t → H.size ≤ H1.size → (∀ q : Nat, q < H.size → ¬ A1 q → H1[q]? = H[q]?) → va_S A0 H0 H1 locs1 → W p l e R s m args below meth c H1 locs1 (cells + mc) (slots + ms) Q (F0 m (pc + 3) ls (.double r :: rest))) : W p l e R s m args below meth c H locs cells slots Q (F0 m pc ls st0) := by
  intro T hT X
  rcases hr T hT X with ⟨v, st₀, t, T', L, h0, X', hL, e1, e2, ⟨⟨r, u, hv, hp, hb⟩, hF⟩, st⟩ | ⟨q, st₀, t, T', L, E, ce, h0, X', hL, e1, e2, ⟨u, hp, hb, hF⟩, hce, hcv, hcl, st⟩
  · cases hv
    obtain ⟨k1, k2, k3⟩ := vx_keep h0 e1 hS hA hf hL hF
    obtain ⟨t2, a1, b1⟩ := kk r u t T'.heap (locs ++ L) e1.symm (by rw [← e2]; exact X'.warmed.alike) hp hb k1 k2 k3 T' rfl X'
    exact ⟨t2, st t2 a1, b1⟩
  · obtain ⟨k1, k2, k3⟩ := vx_keep h0 e1 hS hAX hf hL hF
    obtain ⟨t2, a1, b1⟩ := kx E ce q u t T'.heap (locs ++ L) e1.symm (by rw [← e2]; exact X'.warmed.alike) hp hb k1 k2 k3 (by rw [e1]; exact hce) hcv hcl T' rfl X'
    exact ⟨t2, st.trans a1, b1⟩
theorem vx_callv {S SX : Type} {post : S → Prop} {px : SX → Prop} {B : S → State → Prop} {BX : String → SX → State → Prop} {AX : Nat → Prop} (hr : vx_Run p l e R s m args below meth c H locs cells slots mc ms (F0 m pc ls st0) rest (va_Qv post B A1 a) (vx_X px BX AX) free) (hS : va_S A0 H0 H locs) (hA : ∀ q, q < H.size → A1 q → A0 q) (hf : ∀ q, free q → A0 q) (hAX : ∀ q, q < H.size → AX q → A0 q)
    (kx : ∀ (E : String) (ce : Cell) (q9 : Addr) (u : SX) (t : State) (H1 : Heap) (locs1 : List Loc), t.heap = H1 → s.vm.Alike t.vm → px u → BX E u t → H.size ≤ H1.size → (∀ q : Nat, q < H.size → ¬ AX q → H1[q]? = H[q]?) → va_S A0 H0 H1 locs1 → H1[q9]? = some ce → ce.vm = .none → s.vm.findClass E = some ce.cls → vx_W p l e R s m args below meth c H1 locs1 (cells + mc) (slots + ms) Q (F0 m pc ls rest) q9)
    (kk : ∀ (u : S) (t : State) (H1 : Heap) (locs1 : List Loc), t.heap = H1 → s.vm.Alike t.vm → post u → B u t → H.size ≤ H1.size → (∀ q : Nat, q < H.size → ¬ A1 q → H1[q]? = H[q]?) → va_S A0 H0 H1 locs1 → W p l e R s m args below meth c H1 locs1 (cells + mc) (slots + ms) Q (F0 m (pc + 3) ls (rest))) : W p l e R s m args below meth c H locs cells slots Q (F0 m pc ls st0) := by
  intro T hT X
  rcases hr T hT X with ⟨v, st₀, t, T', L, h0, X', hL, e1, e2, ⟨⟨u, hv, hp, hb⟩, hF⟩, st⟩ | ⟨q, st₀, t, T', L, E, ce, h0, X', hL, e1, e2, ⟨u, hp, hb, hF⟩, hce, hcv, hcl, st⟩
  · cases hv
    obtain ⟨k1, k2, k3⟩ := vx_keep h0 e1 hS hA hf hL hF
    obtain ⟨t2, a1, b1⟩ := kk u t T'.heap (locs ++ L) e1.symm (by rw [← e2]; exact X'.warmed.alike) hp hb k1 k2 k3 T' rfl X'
    exact ⟨t2, st t2 a1, b1⟩
  · obtain ⟨k1, k2, k3⟩ := vx_keep h0 e1 hS hAX hf hL hF
    obtain ⟨t2, a1, b1⟩ := kx E ce q u t T'.heap (locs ++ L) e1.symm (by rw [← e2]; exact X'.warmed.alike) hp hb k1 k2 k3 (by rw [e1]; exact hce) hcv hcl T' rfl X'
    exact ⟨t2, st.trans a1, b1⟩
/-- caught by the row x of this method's table; the rows ahead don't take it -/
theorem vx_catch {own name : String} {E : String} {ce : Cell} {q : Addr} (hown : s.vm.findClass own = some m.cls) (pre : List ExceptionTableEntry) (x : ExceptionTableEntry) (suf : List ExceptionTableEntry) (hsplit : c.exceptionTable.toList = pre ++ x :: suf)
    (hpass : ∀ z ∈ pre, covers z pc = false ∨ (z.catchType ≠ 0 ∧ ∃ nm : String, (Cond.classLink own z.catchType nm).before args s = true ∧ va_Nc E nm s)) (hx : covers x pc = true) (h0 : x.catchType ≠ 0)
    (hlink : (Cond.classLink own x.catchType name).before args s = true) (hcast : (Cond.castable E name).before args s = true) (hcell : H[q]? = some ce) (hv : ce.vm = .none) (hcl : s.vm.findClass E = some ce.cls)
    (kk : W p l e R s m args below meth c H locs cells slots Q (F0 m x.handlerPc ls [.ref q])) : vx_W p l e R s m args below meth c H locs cells slots Q (F0 m pc ls rest) q := by
  intro T hT X
  have hpl : e.platform.magicAccessors = ({} : Platform).magicAccessors := by rw [X.admits.platform]
  obtain ⟨c3, c4, hc3, hc4, hasg⟩ := Cond.castable_spec hcast
  cases Option.some.inj (hc3.symm.trans hcl)
  obtain ⟨c5, hc5, hcl5⟩ := Cond.classLink_spec hown hlink e.platform hpl
  cases Option.some.inj (hc4.symm.trans hc5)
  obtain ⟨vm', X', st⟩ := X.thenCaughtThrough q (g := F0 m pc ls rest) rfl (Steps.refl _) (by rw [hT]; exact hcell) (by rw [hv]; rfl) (by obtain ⟨k9, h9, -⟩ := Vm.findClass_spec hcl; exact ⟨k9, h9⟩) pre x suf hsplit
    (fun z hz => by
      rcases hpass z hz with h | ⟨hz0, nm, hl1, hn1⟩
      · exact Or.inl h
      · obtain ⟨c6, hc6, hcl6⟩ := Cond.classLink_spec hown hl1 e.platform hpl
        obtain ⟨a8, b8, h1, h2, h3⟩ := hn1
        cases Option.some.inj (h1.symm.trans hcl)
        cases Option.some.inj (h2.symm.trans hc6)
        exact Or.inr ⟨hz0, _, hcl6, h3⟩) hx (Or.inr ⟨h0, c4, hcl5, hasg⟩)
  obtain ⟨t, a1, b1⟩ := kk (T.setVm vm') hT X'
  exact ⟨t, st.trans a1, b1⟩
end Rows
section Ends
variable {p : Program} {l : Launch} {e : Env} {R : Room} {s : State} {m : MethodId} {args : Array Value} {below : List Frame} {meth : Method} {c : Code} {H : Heap} {locs : List Loc} {cells slots : Nat} {Q : State → Prop}
variable {mc ms : Nat} {free : Addr → Prop} {A0 A1 : Nat → Prop} {H0 : Heap} {a : Array Value} {ls : Array Slot} {st0 rest : List Value}
variable {Qc : Array Value → State → Outcome → State → Prop} {XC : String → State → State → Prop}
/-- what a body that may throw owes at its end -/
def vx_MQ (below : List Frame) (Qc : Array Value → State → Outcome → State → Prop) (XC : String → State → State → Prop) (a : Array Value) (s : State) (mc ms : Nat) (free : Addr → Prop) : State → Prop := fun t =>
  ∃ o, t.status = .running ∧ Ended t below o ∧ vx_Q Qc XC mc ms free a s o t
theorem vx_ret {g : JFrame} {mc ms : Nat} (k : W p l e R s m args below meth c H locs cells slots (MQ below Qc args s mc ms free) g) : W p l e R s m args below meth c H locs cells slots (vx_MQ below Qc XC args s mc ms free) g := by
  intro T hT X
  obtain ⟨t, a1, o, b1, b2, b3, b4⟩ := k T hT X
  exact ⟨t, a1, o, b1, b2, Or.inl ⟨b3, b4⟩⟩
/-- not caught here: it goes on to the caller -/
theorem vx_widen {g : JFrame} {q : Addr} {k n : Nat} (h1 : cells ≤ k) (h2 : slots ≤ n) (kk : vx_W p l e R s m args below meth c H locs k n Q g q) : vx_W p l e R s m args below meth c H locs cells slots Q g q := fun T hT X => kk T hT (stand_widen X h1 h2)
theorem vx_out {pc : Nat} {E : String} {ce : Cell} {q : Addr} {mc ms : Nat} (hout : ∀ x ∈ c.exceptionTable.toList, covers x pc = false) (hlocks : meth.locks = false) (hcell : H[q]? = some ce) (hv : ce.vm = .none) (hcl : s.vm.findClass E = some ce.cls)
    (hx : ∀ t : State, t.heap = H → s.vm.Alike t.vm → XC E s t) (hf : ∀ z ∈ locs, free z.base) (hc : cells ≤ mc) (hs : slots ≤ ms) :
    vx_W p l e R s m args below meth c H locs cells slots (vx_MQ below Qc XC args s mc ms free) (F0 m pc ls rest) q := by
  intro T hT X
  obtain ⟨st1, hrun, hend, hW, hsm⟩ := X.leaveThrown q (g := F0 m pc ls rest) rfl rfl rfl hout hlocks
  have hcell9 : (T.setFrames (.throwing q :: below)).heap[q]? = some ce := by
    show T.heap[q]? = some ce
    rw [hT]; exact hcell
  exact ⟨_, st1, .threw q, hrun, hend, Or.inr ⟨q, rfl, E, ce, locs, hx _ hT hW.alike, hcell9, hv, hcl, hW, hsm.mono hc hs, hf⟩⟩
theorem vx_frame {U : State} {k n : Nat} (h : s.sameButNew ({ U with vm := s.vm } : State) locs k n) : s.heap.size ≤ U.heap.size ∧ ∀ q : Nat, q < s.heap.size → (∀ z ∈ locs, z.base ≠ q) → U.heap[q]? = s.heap[q]? := by
  obtain ⟨-, h2, -, -, -, h6⟩ := h
  refine ⟨h2, fun q hq hz => ?_⟩
  obtain ⟨c9, e1, e2, e3, e4⟩ := h6 q _ (Array.getElem?_eq_getElem hq)
  have hs : c9.slots = (s.heap[q]).slots := Array.ext_getElem? fun i => e4 i fun hm => hz _ hm rfl
  have h9 : c9 = s.heap[q] := by
    rw [hs] at e2
    exact e2
  have e5 : U.heap[q]? = some c9 := e1
  rw [e5, h9, Array.getElem?_eq_getElem hq]
/-- the words of a throw but the four that speak of the heap -/
def vx_no (w : Cond) : Bool := decide (w ≠ .isRef (.static Bundle.tN "UNASSIGNED_STACK" Bundle.steD)) && decide (w ≠ .isRef (.static Bundle.tN "SUPPRESSED_SENTINEL" Bundle.listD)) && decide (w ≠ .laysStatic Bundle.tN "UNASSIGNED_STACK" Bundle.steD) && decide (w ≠ .laysStatic Bundle.tN "SUPPRESSED_SENTINEL" Bundle.listD)
def vx_at0 (own : String) (ic : Nat) (X : String) (names : List String) : List Cond := (Bundle.ownAtoms0 own ic X names).filter vx_no
def vx_atS (own : String) (ic : Nat) (X : String) (names : List String) : List Cond := (Bundle.ownAtoms own ic X names).filter vx_no
/-- a word that the tables alone decide, or a good one -/
def vx_ot (w : Cond) : Bool := w.onTables || goodWord w
theorem vx_ot_at {args a' : Array Value} {s U : State} {w : Cond} (hW : s.WarmedH U.vm) (hvm : s.vm = U.vm) (hg : vx_ot w = true) (h : w.before args s = true) : w.before a' U = true := by
  simp only [vx_ot, Bool.or_eq_true] at hg
  rcases hg with hg | hg
  · exact va_tabs hg hvm h
  · exact word_at hW (good_of_word hg) h
/-- a list's words: the good ones out of the method's own list, the others by premises of their own -/
theorem vx_hat {args : Array Value} {s : State} {L B : List Cond} (h1 : ∀ w ∈ L.filter goodWord, w.before args s = true) (h2 : ∀ w ∈ L.filter (fun w => !goodWord w), w ∈ B) (h3 : ∀ w ∈ B, w.before args s = true) : ∀ w ∈ L, w.before args s = true := by
  intro w hw
  by_cases g : goodWord w = true
  · exact h1 w (List.mem_filter.mpr ⟨hw, g⟩)
  · refine h3 w (h2 w (List.mem_filter.mpr ⟨hw, ?_⟩))
    show (!goodWord w) = true
    cases hgw : goodWord w
    · rfl
    · exact absurd hgw g
theorem vx_c {args : Array Value} {s : State} {w : Cond} {B : List Cond} (h : w.before args s = true) (t : ∀ w ∈ B, w.before args s = true) : ∀ w' ∈ w :: B, w'.before args s = true := fun w' h' => (List.mem_cons.mp h').elim (fun e => by rw [e]; exact h) (t w')
theorem vx_n {args : Array Value} {s : State} : ∀ w ∈ ([] : List Cond), w.before args s = true := fun _ h => nomatch h
theorem vx_own {args : Array Value} {s : State} {L : List Cond} (h1 : ∀ w ∈ L.filter vx_no, w.before args s = true)
    (hU : (Cond.isRef (.static Bundle.tN "UNASSIGNED_STACK" Bundle.steD)).before args s = true) (hN : (Cond.isRef (.static Bundle.tN "SUPPRESSED_SENTINEL" Bundle.listD)).before args s = true)
    (lU : (Cond.laysStatic Bundle.tN "UNASSIGNED_STACK" Bundle.steD).before args s = true) (lN : (Cond.laysStatic Bundle.tN "SUPPRESSED_SENTINEL" Bundle.listD).before args s = true) : ∀ w ∈ L, w.before args s = true := by
  intro w hw
  by_cases e1 : w = .isRef (.static Bundle.tN "UNASSIGNED_STACK" Bundle.steD)
  · rw [e1]; exact hU
  · by_cases e2 : w = .isRef (.static Bundle.tN "SUPPRESSED_SENTINEL" Bundle.listD)
    · rw [e2]; exact hN
    · by_cases e3 : w = .laysStatic Bundle.tN "UNASSIGNED_STACK" Bundle.steD
      · rw [e3]; exact lU
      · by_cases e4 : w = .laysStatic Bundle.tN "SUPPRESSED_SENTINEL" Bundle.listD
        · rw [e4]; exact lN
        · exact h1 w (List.mem_filter.mpr ⟨hw, by unfold vx_no; rw [decide_eq_true e1, decide_eq_true e2, decide_eq_true e3, decide_eq_true e4]; rfl⟩)
/-- where a static field lies, its class's statics cell in H -/
def vx_L (C n d : String) (A : Nat → Prop) (U : State) (H : Heap) : Prop := ∃ (c : ClassId) (k : Class) (i : Nat) (f : Field) (a : Nat) (cell : Cell), U.vm.findClass C = some c ∧ U.fieldFound? C n d = some (c, k, i, f) ∧ f.isStatic = true ∧ k.statics = some a ∧ H[a]? = some cell ∧ cell.vm.isStatics = true ∧ cell.cls = c ∧ f.slot < cell.slots.size ∧ k.staticTypes[f.slot]? = some f.type ∧ ¬ A a
theorem vx_L.moved {C n d : String} {A : Nat → Prop} {u U : State} {H : Heap} (hvm : u.vm.Alike U.vm) (h : vx_L C n d A u H) : vx_L C n d A U H := by
  obtain ⟨c, k, i, f, a, cell, h1, h2, h3, h4, h5, h6, h7, h8, h9, h10⟩ := h
  obtain ⟨k', hi', he⟩ := State.fieldFound?_setVm hvm h2
  exact ⟨c, k', i, f, a, cell, by rw [hvm.findClass]; exact h1, hi', h3, by rw [he]; exact h4, h5, h6, h7, h8, by rw [he]; exact h9, h10⟩
theorem vx_L.kept {C n d : String} {A : Nat → Prop} {U : State} {H H1 : Heap} (h : vx_L C n d A U H) (hq : ∀ a : Nat, a < H.size → ¬ A a → H1[a]? = H[a]?) : vx_L C n d A U H1 := by
  obtain ⟨c, k, i, f, a, cell, h1, h2, h3, h4, h5, h6, h7, h8, h9, h10⟩ := h
  exact ⟨c, k, i, f, a, cell, h1, h2, h3, h4, by rw [hq a (Array.getElem?_eq_some_iff.mp h5).1 h10]; exact h5, h6, h7, h8, h9, h10⟩
theorem vx_L.narrow {C n d : String} {A B : Nat → Prop} {U : State} {H : Heap} (h : vx_L C n d A U H) (hAB : ∀ q, B q → A q) : vx_L C n d B U H := by
  obtain ⟨c, k, i, f, a, cell, h1, h2, h3, h4, h5, h6, h7, h8, h9, h10⟩ := h
  exact ⟨c, k, i, f, a, cell, h1, h2, h3, h4, h5, h6, h7, h8, h9, fun z => h10 (hAB _ z)⟩
theorem vx_L.word {C n d : String} {A : Nat → Prop} {s : State} {args : Array Value} (h : vx_L C n d A s s.heap) : (Cond.laysStatic C n d).before args s = true := by
  obtain ⟨c, k, i, f, a, cell, h1, h2, h3, h4, h5, h6, h7, h8, h9, -⟩ := h
  show (Cond.laysStatic C n d).holds args s none s [] = true
  exact Cond.laysStatic_of h1 h2 h3 h4 h5 h6 h7 h8 h9
/-- .. and what it holds: null or some reference -/
def vx_Zq (C n d : String) (A : Nat → Prop) (U : State) (H : Heap) : Prop := va_Zq C n d A U H ∧ vx_L C n d A U H
theorem vx_Zq.moved {C n d : String} {A : Nat → Prop} {u U : State} {H : Heap} (hvm : u.vm.Alike U.vm) (h : vx_Zq C n d A u H) : vx_Zq C n d A U H := ⟨va_Zq.moved hvm h.1, vx_L.moved hvm h.2⟩
theorem vx_Zq.kept {C n d : String} {A : Nat → Prop} {U : State} {H H1 : Heap} (h : vx_Zq C n d A U H) (hq : ∀ a : Nat, a < H.size → ¬ A a → H1[a]? = H[a]?) : vx_Zq C n d A U H1 := ⟨va_Zq.kept h.1 hq, vx_L.kept h.2 hq⟩
theorem vx_Zq.narrow {C n d : String} {A B : Nat → Prop} {U : State} {H : Heap} (h : vx_Zq C n d A U H) (hAB : ∀ q, B q → A q) : vx_Zq C n d B U H := ⟨va_Zq.narrow h.1 hAB, vx_L.narrow h.2 hAB⟩
theorem vx_Zqof {args : Array Value} {s : State} {C n d : String} {A : Nat → Prop} (hl : (Cond.laysStatic C n d).before args s = true) (hini : (Cond.initialized C).before args s = true) (h : (Cond.isRef (.static C n d)).before args s = true) (hA : ∀ a : Nat, a < s.heap.size → ¬ A a) : vx_Zq C n d A s s.heap := by
  refine ⟨va_Zqof hl hini h hA, ?_⟩
  obtain ⟨c, k, i, f, a, cell, h1, h2, h3, h4, h5, h6, h7, h8, h9⟩ := Cond.laysStatic_spec hl
  exact ⟨c, k, i, f, a, cell, h1, h2, h3, h4, h5, h6, h7, h8, h9, hA a (Array.getElem?_eq_some_iff.mp h5).1⟩
theorem vx_isRef {C n d : String} {v : Value} {A : Nat → Prop} {s : State} {args : Array Value} (h : va_Z C n d v A s s.heap) (hv : v.isRef = true) : (Cond.isRef (.static C n d)).before args s = true := by
  obtain ⟨cf, kf, fi, f, a, cell, h1, h2, h3, h4, h5, h6, h7, -⟩ := h
  have he : (Term.static C n d).eval args s none [] s = some v := by
    simp [Term.eval, State.fieldNamed?, h1, h2, h4, h5, h6, h7]
  simp only [Cond.before, Cond.holds, Cond.value, he]
  cases v <;> simp_all [Value.isRef]
theorem vx_isRefq {C n d : String} {A : Nat → Prop} {s : State} {args : Array Value} (h : va_Zq C n d A s s.heap) : (Cond.isRef (.static C n d)).before args s = true := by
  rcases h with h | ⟨t, h⟩
  · exact vx_isRef h rfl
  · exact vx_isRef h rfl
/-- the same frame, seen from here: as if the method were called anew in this heap -/
theorem vx_rebase {T : State} (X : Stand p l e R s m args below meth c T locs cells slots) {R' : Room} (hf : R'.frames ≤ R.frames) (hl : R'.locals ≤ R.locals) (hc : cells + R'.cells ≤ R.cells) (hs : slots + R'.slots ≤ R.slots) :
    Stand p l e R' ((T.setVm s.vm).setFrames (.invoking m args :: below)) m args below meth c T [] 0 0 := by
  have htop : (T.setVm s.vm).topJava?.isSome := X.here.top
  have hF : ((T.setVm s.vm).setFrames (.invoking m args :: below)).frames = .invoking m args :: below := State.frames_setFrames _ (State.cur_lt_of_top htop)
  obtain ⟨g₀, hg0⟩ := Option.isSome_iff_exists.mp htop
  obtain ⟨r, hr⟩ := State.topJava?_eq_some.mp hg0
  have hl9 : e.platform.stackLimits (T.setVm s.vm).me = e.platform.stackLimits s.me := X.limits
  have hb9 : (T.setVm s.vm).me.stackBytes = s.me.stackBytes := X.bytes
  refine ⟨X.admits, X.cas, X.clock, hF, ?_, X.hears, X.method, X.code, X.here, X.tail, X.warmed, ?_, ?_, ?_⟩
  · have h := X.room
    have hU : ((T.setVm s.vm).setFrames (.invoking m args :: below)).localsInUse = s.localsInUse := by
      rw [State.localsInUse_invoking hF (meth := meth) (c := c) X.method X.code, State.localsInUse_invoking X.frames X.method X.code]
    simp only [State.hasRoom, Bool.and_eq_true, decide_eq_true_eq] at h ⊢
    obtain ⟨⟨⟨⟨h1, h2, h3, h4, h5, h6⟩, h7⟩, h8⟩, h9⟩ := h
    rw [X.frames, List.length_cons] at h2 h3
    have q1 := X.heapSize
    have q2 := X.used
    simp only [hF, hU, List.length_cons, State.stackLimits_setFrames, State.stackBytes_setFrames, hl9, hb9]
    refine ⟨⟨⟨⟨by omega, by omega, by omega, by omega, by omega, h6⟩, ?_⟩, ?_⟩, X.book⟩
    · show T.heap.size + R'.cells ≤ e.platform.maxCells
      omega
    · show T.slotsUsed + R'.slots ≤ e.platform.maxSlots
      omega
  · rw [State.stackLimits_setFrames]; rfl
  · rw [State.stackBytes_setFrames]; rfl
  · refine ⟨?_, Nat.le_refl _, Nat.le_refl _, ?_, ?_, fun a c9 h9 => ⟨c9, h9, rfl, rfl, fun _ _ => rfl⟩⟩
    · obtain ⟨t, ht, -⟩ := State.frames_cons hr
      show T.setVm s.vm = { ((T.setVm s.vm).setFrames (.invoking m args :: below)).setFrames (T.setVm s.vm).frames with heap := T.heap, slotsUsed := T.slotsUsed }
      rw [State.setFrames_setFrames, State.setFrames_self ht]
      rfl
    · show T.slotsUsed = T.slotsUsed + ((T.heap.toList.drop T.heap.size).map (·.slots.size)).sum
      rw [List.drop_eq_nil_of_le (Nat.le_of_eq Array.length_toList)]
      rfl
    · show ((T.heap.toList.drop T.heap.size).map (·.slots.size)).sum ≤ 0
      rw [List.drop_eq_nil_of_le (Nat.le_of_eq Array.length_toList)]
      exact Nat.le_refl _
/-- 'throw new E()': new; dup; invokespecial; athrow -/
theorem vx_throw0 {cc : ByteArray} {pc : Nat} (hexec : p.tables.exec = Jvm.exec) (hb : c.code = cc) (hl : l.stackTraces = false) {own cls : String} {names : List String} {ik ic mc ms : Nat} {A : Nat → Prop}
    (hown : s.vm.findClass own = some m.cls) (hcls : Bundle.fit cls = true) (hnames : ∀ n ∈ names, Bundle.fit n = true)
    (hk : (Cond.classLink own ik cls).before args s = true) (hini : (Cond.initialized cls).before args s = true) (hat : ∀ w ∈ vx_at0 own ic cls names, w.before args s = true)
    (hgood : ∀ w ∈ Cond.classLink own ik cls :: Cond.initialized cls :: vx_at0 own ic cls names, vx_ot w = true)
    (hU : vx_Zq Bundle.tN "UNASSIGNED_STACK" Bundle.steD A s s.heap) (hN : vx_Zq Bundle.tN "SUPPRESSED_SENTINEL" Bundle.listD A s s.heap) (hS : va_S A s.heap H locs) (hsize : ls.size = c.maxLocals)
    (d0 : decode cc pc = .ok (.new ik, 3)) (d3 : decode cc (pc + 3) = .ok (.dup, 1)) (d4 : decode cc (pc + 4) = .ok (.invokespecial ic, 3)) (d7 : decode cc (pc + 7) = .ok (.athrow, 1))
    (hout : ∀ x ∈ c.exceptionTable.toList, covers x (pc + 7) = false)
    (hRframes : names.length + 3 < R.frames) (hRlocals : (rest.map fun v => v.category).sum + (13 * (names.length + 1) + 42) ≤ R.locals) (hRcells : cells + 1 ≤ R.cells) (hRslots : slots + 6 ≤ R.slots) (hlocks : meth.locks = false)
    (hx : ∀ t : State, s.vm.Alike t.vm → H.size ≤ t.heap.size → (∀ q : Nat, q < H.size → t.heap[q]? = H[q]?) → XC cls s t)
    (hf : ∀ z ∈ locs, free z.base) (hc : cells + 1 ≤ mc) (hs : slots + 6 ≤ ms) :
    W p l e R s m args below meth c H locs cells slots (vx_MQ below Qc XC args s mc ms free) (F0 m pc ls rest) := by
  intro T hT X
  have htr : e.platform.stackTraces = false := (show e.platform.stackTraces = l.stackTraces by rw [X.admits.platform]).trans hl
  have Y := vx_rebase X (R' := { frames := R.frames, locals := R.locals, cells := 1, slots := 6 }) (Nat.le_refl _) (Nat.le_refl _) hRcells hRslots
  obtain ⟨s', hA⟩ : ∃ z, z = (T.setVm s.vm).setFrames (.invoking m args :: below) := ⟨_, rfl⟩
  rw [← hA] at Y
  have hvm : s'.vm = s.vm := by rw [hA]; rfl
  have hhp : s'.heap = H := by rw [hA]; exact hT
  have hW0 : s.WarmedH s'.vm := by rw [hvm]; exact State.WarmedH.refl s
  have hat' : ∀ w ∈ vx_at0 own ic cls names, w.before args s' = true := fun w hw => vx_ot_at hW0 hvm.symm (hgood w (List.mem_cons_of_mem _ (List.mem_cons_of_mem _ hw))) (hat w hw)
  have hk' : (Cond.classLink own ik cls).before args s' = true := vx_ot_at hW0 hvm.symm (hgood _ List.mem_cons_self) hk
  have hini' : (Cond.initialized cls).before args s' = true := vx_ot_at hW0 hvm.symm (hgood _ (List.mem_cons_of_mem _ List.mem_cons_self)) hini
  have hU' : vx_Zq Bundle.tN "UNASSIGNED_STACK" Bundle.steD A s' s'.heap := by rw [hhp]; exact vx_Zq.moved hW0.alike (hU.kept hS.2.1)
  have hN' : vx_Zq Bundle.tN "SUPPRESSED_SENTINEL" Bundle.listD A s' s'.heap := by rw [hhp]; exact vx_Zq.moved hW0.alike (hN.kept hS.2.1)
  have h : ∀ w ∈ Bundle.ownAtoms0 own ic cls names, w.before args s' = true := vx_own hat' (vx_isRefq hU'.1) (vx_isRefq hN'.1) hU'.2.word hN'.2.word
  have hown' : s'.vm.findClass own = some m.cls := by rw [hvm]; exact hown
  have hins : (Cond.instantiable cls 6).before args s' = true := h _ (by simp [Bundle.ownAtoms0])
  obtain ⟨vm₁, cX, kX, hfX, hkX, -, -, X₁, st1⟩ := Y.newCold hexec (own := own) (C := cls) (index := ik) (n := 6) hown' hk' hins hini'
    (g := F0 m pc ls rest) rfl (by rw [hb]; exact d0) (Nat.le_refl _) (Nat.le_refl _)
  generalize hT1 : (T.setVm vm₁).pushCell { cls := cX, slots := kX.instanceTypes.map defaultValue, vm := .none } = T1 at X₁ st1
  have hcat : (Value.ref T.heap.size).category = 1 := rfl
  have hcellA : T1.heap[T.heap.size]? = some (freshCell cX kX) := by rw [← hT1]; exact State.heap_pushCell_size _ _
  have d3' : decode c.code (pc + 3) = .ok (.dup, 1) := by rw [hb]; exact d3
  obtain ⟨U, hsteps, hrun, hend, hW, hsame, ce, hce, hO⟩ := X₁.ctorThrow0 hexec htr (own := own) (cls := cls) (names := names) (ic := ic) hown' hcls hnames h (fun x hx => nomatch hx) hfX hkX hcellA (by rw [hhp, hT]; exact Nat.le_refl _)
    (g := { method := m, pc := pc + 4, locals := ls, stack := .ref T.heap.size :: .ref T.heap.size :: rest, locked := none }) rfl hsize rfl rfl (rest := rest) rfl
    (by rw [hb]; exact d4) (by rw [hb]; exact d7) hout hRframes (by simp only [List.map_cons, List.sum_cons, hcat]; omega) hlocks
  obtain ⟨f1, f2⟩ := vx_frame hsame
  rw [hhp] at f1 f2
  have hWs : s.WarmedH U.vm := State.WarmedH.trans hW0 hW
  have hcl : s.vm.findClass cls = some ce.cls := by
    have h9 := hO.cls
    rw [hvm] at h9
    exact h9
  have hall : s.sameButNew ({ U with vm := s.vm } : State) locs mc ms := by
    subst hA
    obtain ⟨e1, e2⟩ := hsame
    rw [State.setFrames_setFrames] at e1
    have h2 : (T.setVm s.vm).sameButNew ({ U with vm := s.vm } : State) [] (0 + 1) (0 + 6) := ⟨e1, e2⟩
    have h3 := X.same.trans h2
    rw [List.append_nil] at h3
    exact h3.mono hc hs
  refine ⟨U, ?_, .threw T.heap.size, hrun, hend, Or.inr ⟨T.heap.size, rfl, cls, ce, locs, hx U hWs.alike f1 (fun q hq => f2 q hq (fun z hz => nomatch hz)), hce, hO.vm, hcl, hWs, hall, hf⟩⟩
  refine st1 _ ?_
  show Steps p.tables e below (T1.setTop { method := m, pc := pc + 3, locals := ls, stack := .ref T.heap.size :: rest, locked := none }) _
  jvm_step X₁.here [X₁.here.top, hexec, d3', Value.category]
  exact hsteps
/-- 'throw new E("text")': new; dup; ldc; invokespecial; athrow -/
theorem vx_throwS {cc : ByteArray} {pc : Nat} (hexec : p.tables.exec = Jvm.exec) (hb : c.code = cc) (hl : l.stackTraces = false) {own cls text : String} {names : List String} {ik is ic mc ms sa : Nat} {A : Nat → Prop}
    (hown : s.vm.findClass own = some m.cls) (hcls : Bundle.fit cls = true) (hnames : ∀ n ∈ names, Bundle.fit n = true)
    (hk : (Cond.classLink own ik cls).before args s = true) (hini : (Cond.initialized cls).before args s = true) (hstr : vk_R own is text sa s) (hat : ∀ w ∈ vx_atS own ic cls names, w.before args s = true)
    (hgood : ∀ w ∈ Cond.classLink own ik cls :: Cond.initialized cls :: vx_atS own ic cls names, vx_ot w = true)
    (hU : vx_Zq Bundle.tN "UNASSIGNED_STACK" Bundle.steD A s s.heap) (hN : vx_Zq Bundle.tN "SUPPRESSED_SENTINEL" Bundle.listD A s s.heap) (hS : va_S A s.heap H locs) (hsize : ls.size = c.maxLocals)
    (d0 : decode cc pc = .ok (.new ik, 3)) (d3 : decode cc (pc + 3) = .ok (.dup, 1)) (d4 : decode cc (pc + 4) = .ok (.ldc is, 2)) (d6 : decode cc (pc + 6) = .ok (.invokespecial ic, 3)) (d9 : decode cc (pc + 9) = .ok (.athrow, 1))
    (hout : ∀ x ∈ c.exceptionTable.toList, covers x (pc + 9) = false)
    (hRframes : names.length + 3 < R.frames) (hRlocals : (rest.map fun v => v.category).sum + (13 * (names.length + 1) + 43) ≤ R.locals) (hRcells : cells + 1 ≤ R.cells) (hRslots : slots + 6 ≤ R.slots) (hlocks : meth.locks = false)
    (hx : ∀ t : State, s.vm.Alike t.vm → H.size ≤ t.heap.size → (∀ q : Nat, q < H.size → t.heap[q]? = H[q]?) → XC cls s t)
    (hf : ∀ z ∈ locs, free z.base) (hc : cells + 1 ≤ mc) (hs : slots + 6 ≤ ms) :
    W p l e R s m args below meth c H locs cells slots (vx_MQ below Qc XC args s mc ms free) (F0 m pc ls rest) := by
  intro T hT X
  have htr : e.platform.stackTraces = false := (show e.platform.stackTraces = l.stackTraces by rw [X.admits.platform]).trans hl
  have Y := vx_rebase X (R' := { frames := R.frames, locals := R.locals, cells := 1, slots := 6 }) (Nat.le_refl _) (Nat.le_refl _) hRcells hRslots
  obtain ⟨s', hA⟩ : ∃ z, z = (T.setVm s.vm).setFrames (.invoking m args :: below) := ⟨_, rfl⟩
  rw [← hA] at Y
  have hvm : s'.vm = s.vm := by rw [hA]; rfl
  have hhp : s'.heap = H := by rw [hA]; exact hT
  have hW0 : s.WarmedH s'.vm := by rw [hvm]; exact State.WarmedH.refl s
  have hat' : ∀ w ∈ vx_atS own ic cls names, w.before args s' = true := fun w hw => vx_ot_at hW0 hvm.symm (hgood w (List.mem_cons_of_mem _ (List.mem_cons_of_mem _ hw))) (hat w hw)
  have hk' : (Cond.classLink own ik cls).before args s' = true := vx_ot_at hW0 hvm.symm (hgood _ List.mem_cons_self) hk
  have hini' : (Cond.initialized cls).before args s' = true := vx_ot_at hW0 hvm.symm (hgood _ (List.mem_cons_of_mem _ List.mem_cons_self)) hini
  have hU' : vx_Zq Bundle.tN "UNASSIGNED_STACK" Bundle.steD A s' s'.heap := by rw [hhp]; exact vx_Zq.moved hW0.alike (hU.kept hS.2.1)
  have hN' : vx_Zq Bundle.tN "SUPPRESSED_SENTINEL" Bundle.listD A s' s'.heap := by rw [hhp]; exact vx_Zq.moved hW0.alike (hN.kept hS.2.1)
  have h : ∀ w ∈ Bundle.ownAtoms own ic cls names, w.before args s' = true := vx_own hat' (vx_isRefq hU'.1) (vx_isRefq hN'.1) hU'.2.word hN'.2.word
  have hown' : s'.vm.findClass own = some m.cls := by rw [hvm]; exact hown
  have hins : (Cond.instantiable cls 6).before args s' = true := h _ (by simp [Bundle.ownAtoms])
  obtain ⟨vm₁, cX, kX, hfX, hkX, -, -, X₁, st1⟩ := Y.newCold hexec (own := own) (C := cls) (index := ik) (n := 6) hown' hk' hins hini'
    (g := F0 m pc ls rest) rfl (by rw [hb]; exact d0) (Nat.le_refl _) (Nat.le_refl _)
  generalize hT1 : (T.setVm vm₁).pushCell { cls := cX, slots := kX.instanceTypes.map defaultValue, vm := .none } = T1 at X₁ st1
  have hcat : (Value.ref T.heap.size).category = 1 := rfl
  have hcellA : T1.heap[T.heap.size]? = some (freshCell cX kX) := by rw [← hT1]; exact State.heap_pushCell_size _ _
  have d3' : decode c.code (pc + 3) = .ok (.dup, 1) := by rw [hb]; exact d3
  have d4' : decode c.code (pc + 4) = .ok (.ldc is, 2) := by rw [hb]; exact d4
  have hstr' : vk_R own is text sa s' := vk_R.warm hW0 hstr
  obtain ⟨U, hsteps, hrun, hend, hW, hsame, ce, hce, hO⟩ := X₁.ctorThrowS hexec htr (own := own) (cls := cls) (names := names) (ic := ic) hown' hcls hnames h (fun x hx => nomatch hx) hfX hkX hcellA (by rw [hhp, hT]; exact Nat.le_refl _) (msg := .ref sa) rfl
    (g := { method := m, pc := pc + 6, locals := ls, stack := .ref sa :: .ref T.heap.size :: .ref T.heap.size :: rest, locked := none }) rfl hsize rfl rfl (rest := rest) rfl
    (by rw [hb]; exact d6) (by rw [hb]; exact d9) hout hRframes (by simp only [List.map_cons, List.sum_cons, hcat]; omega) hlocks
  obtain ⟨f1, f2⟩ := vx_frame hsame
  rw [hhp] at f1 f2
  have hWs : s.WarmedH U.vm := State.WarmedH.trans hW0 hW
  have hcl : s.vm.findClass cls = some ce.cls := by
    have h9 := hO.cls
    rw [hvm] at h9
    exact h9
  have hall : s.sameButNew ({ U with vm := s.vm } : State) locs mc ms := by
    subst hA
    obtain ⟨e1, e2⟩ := hsame
    rw [State.setFrames_setFrames] at e1
    have h2 : (T.setVm s.vm).sameButNew ({ U with vm := s.vm } : State) [] (0 + 1) (0 + 6) := ⟨e1, e2⟩
    have h3 := X.same.trans h2
    rw [List.append_nil] at h3
    exact h3.mono hc hs
  refine ⟨U, ?_, .threw T.heap.size, hrun, hend, Or.inr ⟨T.heap.size, rfl, cls, ce, locs, hx U hWs.alike f1 (fun q hq => f2 q hq (fun z hz => nomatch hz)), hce, hO.vm, hcl, hWs, hall, hf⟩⟩
  refine st1 _ ?_
  show Steps p.tables e below (T1.setTop { method := m, pc := pc + 3, locals := ls, stack := .ref T.heap.size :: rest, locked := none }) _
  jvm_step X₁.here [X₁.here.top, hexec, d3', Value.category]
  exact X₁.ldcString hexec (own := own) (text := text) (index := is) (a := sa) hown' hstr'.1 hstr'.2
    (g := { method := m, pc := pc + 4, locals := ls, stack := .ref T.heap.size :: .ref T.heap.size :: rest, locked := none }) rfl d4' _ hsteps
/-- 'throw new E("text")', the text by a wide index -/
theorem vx_throwSW {cc : ByteArray} {pc : Nat} (hexec : p.tables.exec = Jvm.exec) (hb : c.code = cc) (hl : l.stackTraces = false) {own cls text : String} {names : List String} {ik is ic mc ms sa : Nat} {A : Nat → Prop}
    (hown : s.vm.findClass own = some m.cls) (hcls : Bundle.fit cls = true) (hnames : ∀ n ∈ names, Bundle.fit n = true)
    (hk : (Cond.classLink own ik cls).before args s = true) (hini : (Cond.initialized cls).before args s = true) (hstr : vk_R own is text sa s) (hat : ∀ w ∈ vx_atS own ic cls names, w.before args s = true)
    (hgood : ∀ w ∈ Cond.classLink own ik cls :: Cond.initialized cls :: vx_atS own ic cls names, vx_ot w = true)
    (hU : vx_Zq Bundle.tN "UNASSIGNED_STACK" Bundle.steD A s s.heap) (hN : vx_Zq Bundle.tN "SUPPRESSED_SENTINEL" Bundle.listD A s s.heap) (hS : va_S A s.heap H locs) (hsize : ls.size = c.maxLocals)
    (d0 : decode cc pc = .ok (.new ik, 3)) (d3 : decode cc (pc + 3) = .ok (.dup, 1)) (d4 : decode cc (pc + 4) = .ok (.ldc_w is, 3)) (d7 : decode cc (pc + 7) = .ok (.invokespecial ic, 3)) (d10 : decode cc (pc + 10) = .ok (.athrow, 1))
    (hout : ∀ x ∈ c.exceptionTable.toList, covers x (pc + 10) = false)
    (hRframes : names.length + 3 < R.frames) (hRlocals : (rest.map fun v => v.category).sum + (13 * (names.length + 1) + 43) ≤ R.locals) (hRcells : cells + 1 ≤ R.cells) (hRslots : slots + 6 ≤ R.slots) (hlocks : meth.locks = false)
    (hx : ∀ t : State, s.vm.Alike t.vm → H.size ≤ t.heap.size → (∀ q : Nat, q < H.size → t.heap[q]? = H[q]?) → XC cls s t)
    (hf : ∀ z ∈ locs, free z.base) (hc : cells + 1 ≤ mc) (hs : slots + 6 ≤ ms) :
    W p l e R s m args below meth c H locs cells slots (vx_MQ below Qc XC args s mc ms free) (F0 m pc ls rest) := by
  intro T hT X
  have htr : e.platform.stackTraces = false := (show e.platform.stackTraces = l.stackTraces by rw [X.admits.platform]).trans hl
  have Y := vx_rebase X (R' := { frames := R.frames, locals := R.locals, cells := 1, slots := 6 }) (Nat.le_refl _) (Nat.le_refl _) hRcells hRslots
  obtain ⟨s', hA⟩ : ∃ z, z = (T.setVm s.vm).setFrames (.invoking m args :: below) := ⟨_, rfl⟩
  rw [← hA] at Y
  have hvm : s'.vm = s.vm := by rw [hA]; rfl
  have hhp : s'.heap = H := by rw [hA]; exact hT
  have hW0 : s.WarmedH s'.vm := by rw [hvm]; exact State.WarmedH.refl s
  have hat' : ∀ w ∈ vx_atS own ic cls names, w.before args s' = true := fun w hw => vx_ot_at hW0 hvm.symm (hgood w (List.mem_cons_of_mem _ (List.mem_cons_of_mem _ hw))) (hat w hw)
  have hk' : (Cond.classLink own ik cls).before args s' = true := vx_ot_at hW0 hvm.symm (hgood _ List.mem_cons_self) hk
  have hini' : (Cond.initialized cls).before args s' = true := vx_ot_at hW0 hvm.symm (hgood _ (List.mem_cons_of_mem _ List.mem_cons_self)) hini
  have hU' : vx_Zq Bundle.tN "UNASSIGNED_STACK" Bundle.steD A s' s'.heap := by rw [hhp]; exact vx_Zq.moved hW0.alike (hU.kept hS.2.1)
  have hN' : vx_Zq Bundle.tN "SUPPRESSED_SENTINEL" Bundle.listD A s' s'.heap := by rw [hhp]; exact vx_Zq.moved hW0.alike (hN.kept hS.2.1)
  have h : ∀ w ∈ Bundle.ownAtoms own ic cls names, w.before args s' = true := vx_own hat' (vx_isRefq hU'.1) (vx_isRefq hN'.1) hU'.2.word hN'.2.word
  have hown' : s'.vm.findClass own = some m.cls := by rw [hvm]; exact hown
  have hins : (Cond.instantiable cls 6).before args s' = true := h _ (by simp [Bundle.ownAtoms])
  obtain ⟨vm₁, cX, kX, hfX, hkX, -, -, X₁, st1⟩ := Y.newCold hexec (own := own) (C := cls) (index := ik) (n := 6) hown' hk' hins hini'
    (g := F0 m pc ls rest) rfl (by rw [hb]; exact d0) (Nat.le_refl _) (Nat.le_refl _)
  generalize hT1 : (T.setVm vm₁).pushCell { cls := cX, slots := kX.instanceTypes.map defaultValue, vm := .none } = T1 at X₁ st1
  have hcat : (Value.ref T.heap.size).category = 1 := rfl
  have hcellA : T1.heap[T.heap.size]? = some (freshCell cX kX) := by rw [← hT1]; exact State.heap_pushCell_size _ _
  have d3' : decode c.code (pc + 3) = .ok (.dup, 1) := by rw [hb]; exact d3
  have d4' : decode c.code (pc + 4) = .ok (.ldc_w is, 3) := by rw [hb]; exact d4
  have hstr' : vk_R own is text sa s' := vk_R.warm hW0 hstr
  obtain ⟨U, hsteps, hrun, hend, hW, hsame, ce, hce, hO⟩ := X₁.ctorThrowS hexec htr (own := own) (cls := cls) (names := names) (ic := ic) hown' hcls hnames h (fun x hx => nomatch hx) hfX hkX hcellA (by rw [hhp, hT]; exact Nat.le_refl _) (msg := .ref sa) rfl
    (g := { method := m, pc := pc + 7, locals := ls, stack := .ref sa :: .ref T.heap.size :: .ref T.heap.size :: rest, locked := none }) rfl hsize rfl rfl (rest := rest) rfl
    (by rw [hb]; exact d7) (by rw [hb]; exact d10) hout hRframes (by simp only [List.map_cons, List.sum_cons, hcat]; omega) hlocks
  obtain ⟨f1, f2⟩ := vx_frame hsame
  rw [hhp] at f1 f2
  have hWs : s.WarmedH U.vm := State.WarmedH.trans hW0 hW
  have hcl : s.vm.findClass cls = some ce.cls := by
    have h9 := hO.cls
    rw [hvm] at h9
    exact h9
  have hall : s.sameButNew ({ U with vm := s.vm } : State) locs mc ms := by
    subst hA
    obtain ⟨e1, e2⟩ := hsame
    rw [State.setFrames_setFrames] at e1
    have h2 : (T.setVm s.vm).sameButNew ({ U with vm := s.vm } : State) [] (0 + 1) (0 + 6) := ⟨e1, e2⟩
    have h3 := X.same.trans h2
    rw [List.append_nil] at h3
    exact h3.mono hc hs
  refine ⟨U, ?_, .threw T.heap.size, hrun, hend, Or.inr ⟨T.heap.size, rfl, cls, ce, locs, hx U hWs.alike f1 (fun q hq => f2 q hq (fun z hz => nomatch hz)), hce, hO.vm, hcl, hWs, hall, hf⟩⟩
  refine st1 _ ?_
  show Steps p.tables e below (T1.setTop { method := m, pc := pc + 3, locals := ls, stack := .ref T.heap.size :: rest, locked := none }) _
  jvm_step X₁.here [X₁.here.top, hexec, d3', Value.category]
  exact X₁.ldcStringW hexec (own := own) (text := text) (index := is) (a := sa) hown' hstr'.1 hstr'.2
    (g := { method := m, pc := pc + 4, locals := ls, stack := .ref T.heap.size :: .ref T.heap.size :: rest, locked := none }) rfl d4' _ hsteps
end Ends
section Bodies
variable {l : Launch}
theorem vx_ofW {y : MethodName} {ws ws' : List Cond} {rm : Room} {Pc : Array Value → State → Prop} {Qc : Array Value → State → Outcome → State → Prop} {XC : String → State → State → Prop} {mc ms : Nat} {free : Addr → Prop} {cc : ByteArray} {maxL : Nat} {ret : Option FieldType}
    (hy : plainName y.cls = true) (hw : ws = Cond.code y cc maxL ret :: ws')
    (body : ∀ p e s m args below meth c s₁, BodyLoose p l y (headSpec ws rm) cc maxL ret e s m args below meth c s₁ → c.maxLocals = maxL → (∀ x ∈ c.exceptionTable.toList, False) → Pc args s →
      W p l e (headSpec ws rm).room s m args below meth c s.heap [] 0 0 (vx_MQ below Qc XC args s mc ms free) (entryFrame m args maxL)) : vx_Met l y ws rm Pc Qc XC mc ms free := by
  refine MetFree.of_bodyS (code := cc) (maxLocals := maxL) (ret := ret) hy ?_ ?_
  · intro args s m h hn
    obtain ⟨meth, c, h1, h2, h3, h4, h5, h6, -, -⟩ := Cond.code_spec hn (atoms_spec (ws := ws) h _ (by rw [hw]; exact List.mem_cons_self))
    exact ⟨meth, c, h1, h2, h3, h4, h5, h6⟩
  · intro p e s m args below meth c s₁ B hml hP _
    have hh0 : s₁.heap = s.heap := by rw [B.state]; rfl
    have ht : ∀ x ∈ c.exceptionTable.toList, False := by
      obtain ⟨meth9, c9, h1, h2, -, -, -, -, h7, -⟩ := Cond.code_spec B.named (atoms_spec (ws := ws) B.pre _ (by rw [hw]; exact List.mem_cons_self))
      cases Option.some.inj (h1.symm.trans B.method)
      cases Option.some.inj (h2.symm.trans (Stand.of_body B).code)
      intro x hx
      rw [Array.isEmpty_iff.mp h7] at hx
      cases hx
    obtain ⟨t, a1, o, b1, b2, b3⟩ := body p e s m args below meth c s₁ B hml ht hP s₁ hh0 (Stand.of_body B)
    exact ⟨t, o, a1, b1, b2, b3⟩
/-- the table of a body with handlers -/
theorem vx_table {p : Program} {x y : MethodName} {S : Spec} {cc bytes : ByteArray} {maxL maxL' : Nat} {ret ret' : Option FieldType} {e : Env} {s s₁ : State} {m : MethodId} {args : Array Value} {below : List Frame} {meth : Method} {c : Code} {hh : List (Nat × Nat × Nat × Nat)}
    (B : BodyLoose p l y S cc maxL ret e s m args below meth c s₁) (h : (Cond.codeWith y bytes maxL' ret' hh).before args s = true) : c.exceptionTable.toList = tableOf hh := by
  obtain ⟨m9, meth9, c9, hn9, h1, h2, -, -, h6, -⟩ := Cond.codeWith_spec h
  cases Option.some.inj (hn9.symm.trans B.named)
  cases Option.some.inj (h1.symm.trans B.method)
  cases Option.some.inj (h2.symm.trans (Stand.of_body B).code)
  rw [← h6, table_eq]
end Bodies
end VXA
/-! ===== END ===== -/
/-! ===== BEGIN a static call of a method with an exception table ===== -/
section VXS
variable {p : Program} {l : Launch} {e : Env} {R : Room} {s : State} {m : MethodId} {args : Array Value} {below : List Frame} {meth : Method} {c : Code} {T : State} {H : Heap} {locs : List Loc} {cells slots : Nat}
abbrev vx_CSW (R : Room) (s : State) (args : Array Value) (own : String) (index : Nat) (y : MethodName) (bytes : ByteArray) (maxL : Nat) (ret : Option FieldType) (hh : List (Nat × Nat × Nat × Nat)) (ws : List Cond) (rm : Room) (mc ms n : Nat) : Prop :=
  (rm.cells = mc ∧ rm.slots = ms ∧ rm.frames + 1 ≤ R.frames ∧ 8 + (maxL + 11) + rm.locals ≤ R.locals ∧ (∀ w ∈ ws, ∀ (a' : Array Value) (U : State), s.WarmedH U.vm → w.before a' U = true) ∧ Cond.codeWith y bytes maxL ret hh ∈ ws) ∧
  (Cond.codeWith y bytes maxL ret hh).before args s = true ∧ (Cond.initialized y.cls).before args s = true ∧ (y.cls ≠ "java/lang/invoke/MethodHandle" ∧ y.cls ≠ "java/lang/invoke/VarHandle") ∧
  (∀ sig, parseMethodDescriptor y.desc = some sig → n = sig.parameters.length) ∧ (Cond.methodLink own index y).before args s = true ∧ (Cond.static y).before args s = true
theorem vx_cwSW {own : String} {index maxL mc ms : Nat} {y : MethodName} {bytes : ByteArray} {ret : Option FieldType} {hh : List (Nat × Nat × Nat × Nat)} {Ts ws ws' : List Cond} {rm : Room} (n : Nat) (ht : ∀ w ∈ Ts, w.before args s = true) (hT : GoodIn Ts (va_wsS own index y ws)) (hw : ws = Cond.codeWith y bytes maxL ret hh :: ws') (hrc : rm.cells = mc) (hrs : rm.slots = ms)
    (hd : y.cls ≠ "java/lang/invoke/MethodHandle" ∧ y.cls ≠ "java/lang/invoke/VarHandle" ∧ (parseMethodDescriptor y.desc).map (fun d => d.parameters.length) = some n) (hR : rm.frames + 1 ≤ R.frames ∧ 8 + (maxL + 11) + rm.locals ≤ R.locals) :
    vx_CSW R s args own index y bytes maxL ret hh ws rm mc ms n := by
  have ok : ∀ w ∈ va_wsS own index y ws, w.before args s = true := fun w h => ht w (hT w h).1
  have hG : GoodIn Ts ws := fun w h => hT w (by unfold va_wsS; exact List.mem_append_right _ h)
  have hc : Cond.codeWith y bytes maxL ret hh ∈ ws := by rw [hw]; exact List.mem_cons_self
  refine ⟨⟨hrc, hrs, hR.1, hR.2, pay_in ht hG, hc⟩, ht _ (hG _ hc).1, ok _ (by simp [va_wsS]), ⟨hd.1, hd.2.1⟩, fun sig h => ?_, ok _ (by simp [va_wsS]), ok _ (by simp [va_wsS])⟩
  have h2 := hd.2.2
  rw [h] at h2
  exact (Option.some.inj h2).symm
theorem vx_callSW (X : Stand p l e R s m args below meth c T locs cells slots) (hexec : p.tables.exec = Jvm.exec) {own : String} {index : Nat} {y : MethodName} {bytes : ByteArray} {maxL : Nat} {ret : Option FieldType} {hh : List (Nat × Nat × Nat × Nat)}
    (hown : s.vm.findClass own = some m.cls) (hlink : (Cond.methodLink own index y).before args s = true) (hstat : (Cond.static y).before args s = true) (hinit : (Cond.initialized y.cls).before args s = true)
    (hcode : (Cond.codeWith y bytes maxL ret hh).before args s = true) (hy : y.cls ≠ "java/lang/invoke/MethodHandle" ∧ y.cls ≠ "java/lang/invoke/VarHandle")
    {W9 : Nat} {Pre : Pt → Array Value → Prop} {Post : Pt → Array Value → Option Value → Pt → Prop} (hK : Back l R p e below s args y 3 W9 Pre Post)
    {g : JFrame} (hg : g.method = m) (hsize : g.locals.size = c.maxLocals) {argsL rest : List Value} (hlen : ∀ sig, parseMethodDescriptor y.desc = some sig → argsL.length = sig.parameters.length)
    (hstack : g.stack = argsL.reverse ++ rest) (hW : 2 * g.monitorRoom + (rest.map fun v => v.category).sum ≤ W9) (hdg : decode c.code g.pc = .ok (.invokestatic index, 3))
    (hpre : ∀ vm₁, s.WarmedH vm₁ → Pre ⟨T.setVm vm₁, locs, cells, slots⟩ argsL.toArray) :
    ∃ (v : Option Value) (vm₁ : Vm) (B : Pt), s.WarmedH vm₁ ∧ Stand p l e R s m args below meth c B.U B.locs B.cells B.slots ∧ Post ⟨T.setVm vm₁, locs, cells, slots⟩ argsL.toArray v B ∧
      ∀ target, Steps p.tables e below (B.U.setTop { g with pc := g.pc + 3, stack := v.toList ++ rest }) target → Steps p.tables e below (T.setTop g) target := by
  obtain ⟨mk, methM, cM, hnamed, hmethM, -, -, -, -, -, -, hsigM⟩ := Cond.codeWith_spec hcode
  have hstatic : methM.isStatic = true := Cond.static_spec hnamed hmethM hstat
  obtain ⟨kP, hkP, -⟩ := className_of_methodNamed hnamed
  have hinitP : kP.init = .initialized := Cond.initialized_spec (findClass_of_methodNamed hnamed) hkP hinit
  obtain ⟨vm₁, X₁, hstep₁⟩ := X.invokestatic hexec hown hlink hnamed hmethM hstatic hkP hinitP hy (g := g) hg (argsL := argsL) (rest := rest) (hlen _ hsigM) hstack hdg
  obtain ⟨v, B, X', hpost, hsteps⟩ := hK m meth c ⟨T.setVm vm₁, locs, cells, slots⟩ { g with stack := rest } (.invokestatic index) mk argsL.toArray X₁ hg hsize hdg hW (X₁.named hnamed) (hpre vm₁ X₁.warmed)
  exact ⟨v, vm₁, B, X₁.warmed, X', hpost, fun target h => hstep₁ _ fun acts => by rw [doInvoke_state]; exact hsteps.trans h⟩
theorem vx_runSW {y : MethodName} {bytes cc : ByteArray} {maxL nL mc ms n index : Nat} {ret : Option FieldType} {hh : List (Nat × Nat × Nat × Nat)} {ws : List Cond} {rm : Room} {Pc : Array Value → State → Prop} {Qc : Array Value → State → Outcome → State → Prop} {free : Addr → Prop} {Ts : List Cond} {own : String} {As rest : List Value} {g : JFrame}
    (S : CallFix p m c cc nL s args Ts own) (hM : Met l y ws rm Pc Qc mc ms free) (cw : vx_CSW R s args own index y bytes maxL ret hh ws rm mc ms n) (hp : PreS s H Pc As)
    (hg : g.method = m) (hn : As.length = n) (hsize : g.locals.size = nL) (hstack : g.stack = As.reverse ++ rest) (hW : 2 * g.monitorRoom + (rest.map fun v => v.category).sum ≤ 8) (hdg : decode cc g.pc = .ok (.invokestatic index, 3)) (hf : cells + mc ≤ R.cells ∧ slots + ms ≤ R.slots) :
    va_Run p l e R s m args below meth c H locs cells slots mc ms g rest (Qc As.toArray) (free) := by
  obtain ⟨⟨hrc, hrs, hfr, hlo, hws, hcw⟩, hcode, hini, hy, hlen, hl, hstt⟩ := cw
  have hK : Back l R p e below s args y 3 8 (PreOf R mc ms Pc) (PostOf Qc mc ms free) := va_backW (hh := hh) (bytes := bytes) (maxL := maxL) (ret := ret) hM hp.1 hrc hrs hfr hlo hws hcw (fun a' U hW => word_at hW (Or.inl (by first | rfl | simp [Cond.onTables, Cond.keeps, Cond.steady])) hini)
  obtain ⟨hx, hb, hml, ho, -⟩ := S
  intro T hT X
  obtain ⟨v, vm₁, ⟨U', l2, c2, s2⟩, hW₁, X', ⟨g', mk, t, L, e1, e2, hq, h1, hL, h2, h3⟩, st⟩ := vx_callSW X hx (hh := hh) (bytes := bytes) (maxL := maxL) (ret := ret) ho hl hstt hini hcode hy hK hg (hsize.trans hml.symm) (argsL := As) (rest := rest) (fun sig h => hn.trans (hlen sig h)) hstack hW (by rw [hb]; exact hdg)
    (fun vm₁ hW₁ => ⟨hf.1, hf.2, hp.2 (T.setVm vm₁) hT hW₁⟩)
  dsimp only [Pt.U, Pt.locs, Pt.cells, Pt.slots] at X' e1 e2 h1 h2 h3 st
  subst h1; subst h2; subst h3
  exact ⟨v, (T.setVm vm₁).calling g' mk As.toArray, t, U', L, hT, X', hL, e1, e2, hq, st⟩
/-- not caught here, past rows that name other classes: it goes on to the caller -/
theorem vx_outP {p : Program} {l : Launch} {e : Env} {R : Room} {s : State} {m : MethodId} {args : Array Value} {below : List Frame} {meth : Method} {c : Code} {H : Heap} {locs : List Loc} {cells slots : Nat} {free : Addr → Prop} {ls : Array Slot} {rest : List Value} {Qc : Array Value → State → Outcome → State → Prop} {XC : String → State → State → Prop}
    {pc : Nat} {own E : String} {ce : Cell} {q : Addr} {mc ms : Nat} (hown : s.vm.findClass own = some m.cls) (hlocks : meth.locks = false)
    (hpass : ∀ z ∈ c.exceptionTable.toList, covers z pc = false ∨ (z.catchType ≠ 0 ∧ ∃ nm : String, (Cond.classLink own z.catchType nm).before args s = true ∧ va_Nc E nm s)) (hcell : H[q]? = some ce) (hv : ce.vm = .none) (hcl : s.vm.findClass E = some ce.cls)
    (hx : ∀ t : State, t.heap = H → s.vm.Alike t.vm → XC E s t) (hf : ∀ z ∈ locs, free z.base) (hc : cells ≤ mc) (hs : slots ≤ ms) :
    vx_W p l e R s m args below meth c H locs cells slots (vx_MQ below Qc XC args s mc ms free) (F0 m pc ls rest) q := by
  intro T hT X
  have hpl : e.platform.magicAccessors = ({} : Platform).magicAccessors := by rw [X.admits.platform]
  obtain ⟨vm', hW', X', st⟩ := X.outThrough hlocks q (g := F0 m pc ls rest) rfl rfl rfl (cell := ce) (by rw [hT]; exact hcell) (by rw [hv]; rfl)
    (by obtain ⟨k9, h9, -⟩ := Vm.findClass_spec hcl; exact ⟨k9, h9⟩) (fun z hz => by
      rcases hpass z hz with h | ⟨hz0, nm, hl1, hn1⟩
      · exact Or.inl h
      · obtain ⟨c6, hc6, hcl6⟩ := Cond.classLink_spec hown hl1 e.platform hpl
        obtain ⟨a8, b8, h1, h2, h3⟩ := hn1
        cases Option.some.inj (h1.symm.trans hcl)
        cases Option.some.inj (h2.symm.trans hc6)
        exact Or.inr ⟨hz0, _, hcl6, h3⟩)
  obtain ⟨g₀, hfr⟩ := X'.frames_eq
  have hcell9 : ((T.setVm vm').setFrames (.throwing q :: below)).heap[q]? = some ce := by
    show T.heap[q]? = some ce
    rw [hT]; exact hcell
  have hend : Ended ((T.setVm vm').setFrames (.throwing q :: below)) below (.threw q) := State.frames_setFrames _ (State.cur_lt_of_frames hfr)
  refine ⟨(T.setVm vm').setFrames (.throwing q :: below), ?_, .threw q, X'.here.running, hend, Or.inr ⟨q, rfl, E, ce, locs, hx _ hT (X'.ends _).1.alike, hcell9, hv, hcl, (X'.ends _).1, (X'.ends _).2.mono hc hs, hf⟩⟩
  rw [X.pushThrowing_eq]
  exact st
/-- a thing of a world lies in the heap -/
theorem vx_lt {D : va_G} {cl : List vw_C} {ws : va_W} {H1 : Heap} (h : va_P D cl ws H1) {k : Nat} {q : Nat × va_E} (hk : ws[k]? = some q) : q.1 < H1.size := (h k q hk).lt
end VXS
/-! ===== END ===== -/
/-! ===== BEGIN methods with a table of their own: called by a name, returning or throwing ===== -/
section VXH
/-! vx_backW, vx_callVX, vx_callSX, vx_callVW, vx_runVW, vx_runVX, vx_runSX, vx_ofWH follow the same proofs as their sisters above (Free/Laws.lean, Shelf42/LK1.lean); vx_outP calls Shelf42/NT130.lean (outThrough). -/
section
variable {l : Launch} {R : Room} {p : Program} {e : Env} {below : List Frame} {s : State} {sargs : Array Value} {y : MethodName} {len W9 : Nat}
theorem vx_backW {ws : List Cond} {rm : Room} {Pc : Array Value → State → Prop} {Qc : Array Value → State → Outcome → State → Prop} {XC : String → State → State → Prop} {mc ms : Nat} {free : Addr → Prop} {bytes : ByteArray} {maxL : Nat} {ret : Option FieldType} {hh : List (Nat × Nat × Nat × Nat)}
    (hM : vx_Met l y ws rm Pc Qc XC mc ms free) (hblind : FrameBlind Pc) (hrc : rm.cells = mc) (hrs : rm.slots = ms)
    (hframes : rm.frames + 1 ≤ R.frames) (hlocals : W9 + (maxL + 11) + rm.locals ≤ R.locals)
    (hws : ∀ w ∈ ws, ∀ a' U, s.WarmedH U.vm → w.before a' U = true) (hcode : Cond.codeWith y bytes maxL ret hh ∈ ws) (hinit : ∀ a' U, s.WarmedH U.vm → (Cond.initialized y.cls).before a' U = true) :
    vx_Back l R p e below s sargs y len W9 (PreOf R mc ms Pc) (PostOf Qc mc ms free) (vx_Post XC mc ms free) := by
  intro m meth c A g ig mk a X hg hsize hdg hW hn hp
  have h1 : (headSpec ws rm).pre.before a A.U = true := atoms_intro fun w hw => hws w hw _ _ X.warmed
  have h2 : (Cond.codeWith y bytes maxL ret hh).before a A.U = true := hws _ hcode _ _ X.warmed
  have h3 : (Cond.initialized y.cls).before a A.U = true := hinit _ _ X.warmed
  have h4 : A.cells + (headSpec ws rm).room.cells ≤ R.cells := by rw [show (headSpec ws rm).room.cells = mc from hrc]; exact hp.1
  have h5 : A.slots + (headSpec ws rm).room.slots ≤ R.slots := by rw [show (headSpec ws rm).room.slots = ms from hrs]; exact hp.2.1
  have hPc : Pc a (A.U.calling g mk a) := hblind _ _ _ _ hp.2.2
  obtain ⟨U, Ls, c0, s0⟩ := A
  dsimp only [Pt.U, Pt.locs, Pt.cells, Pt.slots] at h1 h2 h3 h4 h5 X hn hPc ⊢
  obtain ⟨m9, methY, cY, hn9, hmY, hcY, -, hlY, -⟩ := Cond.codeWith_spec h2
  cases Option.some.inj (hn9.symm.trans hn)
  obtain ⟨kY, hkY, -⟩ := className_of_methodNamed hn
  have hinitY : kY.init = .initialized := Cond.initialized_spec (findClass_of_methodNamed hn) hkY h3
  have h : At U g.method c below := by rw [hg]; exact X.here
  have hlocals9 : W9 + (maxL + 11) + (headSpec ws rm).room.locals ≤ R.locals := hlocals
  have happ : (headSpec ws rm).appliesLoose y e.platform (U.calling g mk a) = true :=
    Spec.appliesLoose_calling (g := g) h hdg hn hkY hinitY
      (X.room_calling (g := g) (R' := (headSpec ws rm).room) hsize hmY hcY hframes (by rw [hlY]; omega) h4 h5) h1
  obtain ⟨mid, hmid⟩ := h.above
  have hfr : (U.setTop g).frames = (.java g :: mid) ++ below := by rw [State.frames_setTop' g h.top, hmid]; rfl
  obtain ⟨o, s₂, hsteps, -, hend, hq⟩ := Steps.callFree hM p X.admits X.cas X.clock (acts := []) hfr happ hPc trivial
  have hq' : vx_Q Qc XC mc ms free a (U.calling g mk a) o s₂ := hq
  rw [State.frames_setTop' g h.top] at hend
  obtain ⟨g₀, hg0⟩ := Option.isSome_iff_exists.mp h.top
  obtain ⟨r, hr⟩ := State.topJava?_eq_some.mp hg0
  have hr' : (({ U with heap := s₂.heap, slotsUsed := s₂.slotsUsed } : State).setVm s₂.vm).frames = .java g₀ :: r := hr
  rcases hq' with ⟨hqc, L, hfe, hL⟩ | ⟨q, rfl, E, ce, L, hx, hce, hcv, hcl, hW₂, hsm, hL⟩
  · obtain ⟨⟨v, rfl⟩, hW₂, e2, q2, q3, q4, q5, q6⟩ := id hfe
    have e3 : s₂ = ({ (U.calling g mk a).setFrames s₂.frames with heap := s₂.heap, slotsUsed := s₂.slotsUsed } : State).setVm s₂.vm := by
      have : s₂ = ({ s₂ with vm := (U.calling g mk a).vm } : State).setVm s₂.vm := rfl
      rw [e2] at this
      exact this
    obtain ⟨c₂, i₂, len₂, hc₂, hd₂, hf₂⟩ := hend
    have hW' : U.WarmedH s₂.vm := hW₂
    have hcc : c₂ = c := by
      have h1 : s₂.code? g.method = U.code? g.method := by
        rw [State.code?_eq, State.code?_eq, hW'.alike.method?]
      exact Option.some.inj (hc₂.symm.trans (h1.trans h.code))
    subst hcc
    have hlen : len₂ = len := by rw [hdg] at hd₂; cases hd₂; rfl
    subst hlen
    have hs₂ : s₂ = (({ U with heap := s₂.heap, slotsUsed := s₂.slotsUsed } : State).setVm s₂.vm).setTop { g with pc := g.pc + len₂, stack := v.toList ++ g.stack } := by
      refine e3.trans ?_
      rw [hf₂, State.calling_eq h.top, State.setFrames_setFrames, State.setTop_of_frames _ hr', hr]
      rfl
    have hsame : U.sameButNew ({ U with heap := s₂.heap, slotsUsed := s₂.slotsUsed } : State) L mc ms := by
      refine ⟨?_, q2, q3, q4, q5, q6⟩
      obtain ⟨t, ht, -⟩ := State.frames_cons hr
      show ({ U with heap := s₂.heap, slotsUsed := s₂.slotsUsed } : State) = { U.setFrames U.frames with heap := s₂.heap, slotsUsed := s₂.slotsUsed }
      rw [State.setFrames_self ht]
    subst hg
    refine Or.inl ⟨v, ⟨(({ U with heap := s₂.heap, slotsUsed := s₂.slotsUsed } : State).setVm s₂.vm), Ls ++ L, c0 + mc, s0 + ms⟩,
      ⟨X.admits, X.cas, X.clock, X.frames, X.room, X.hears, X.method, X.code, (X.here.setHeapUsed s₂.heap s₂.slotsUsed).setVm hW'.alike, X.tail, State.WarmedH.trans X.warmed hW', X.limits, X.bytes, X.same.trans (hsame.setVm s.vm)⟩,
      ⟨g, mk, s₂, L, rfl, rfl, hqc, rfl, hL, rfl, rfl⟩, ?_⟩
    show Steps p.tables e below _ ((({ U with heap := s₂.heap, slotsUsed := s₂.slotsUsed } : State).setVm s₂.vm).setTop { g with pc := g.pc + len₂, stack := v.toList ++ g.stack })
    rw [← hs₂]
    exact hsteps
  · obtain ⟨e2, q2, q3, q4, q5, q6⟩ := id hsm
    have e3 : s₂ = ({ (U.calling g mk a).setFrames s₂.frames with heap := s₂.heap, slotsUsed := s₂.slotsUsed } : State).setVm s₂.vm := by
      have : s₂ = ({ s₂ with vm := (U.calling g mk a).vm } : State).setVm s₂.vm := rfl
      rw [e2] at this
      exact this
    have hf₂ : s₂.frames = .throwing q :: .java g :: U.frames.tail := hend
    have hW' : U.WarmedH s₂.vm := hW₂
    have hs₂ : s₂ = ((({ U with heap := s₂.heap, slotsUsed := s₂.slotsUsed } : State).setVm s₂.vm).setTop g).pushFrame (.throwing q) := by
      refine e3.trans ?_
      rw [hf₂, State.calling_eq h.top, State.setFrames_setFrames, State.pushFrame, State.frames_setTop _ hr', State.setTop_of_frames _ hr', State.setFrames_setFrames, hr]
      rfl
    have hsame : U.sameButNew ({ U with heap := s₂.heap, slotsUsed := s₂.slotsUsed } : State) L mc ms := by
      refine ⟨?_, q2, q3, q4, q5, q6⟩
      obtain ⟨t, ht, -⟩ := State.frames_cons hr
      show ({ U with heap := s₂.heap, slotsUsed := s₂.slotsUsed } : State) = { U.setFrames U.frames with heap := s₂.heap, slotsUsed := s₂.slotsUsed }
      rw [State.setFrames_self ht]
    subst hg
    refine Or.inr ⟨q, ⟨(({ U with heap := s₂.heap, slotsUsed := s₂.slotsUsed } : State).setVm s₂.vm), Ls ++ L, c0 + mc, s0 + ms⟩,
      ⟨X.admits, X.cas, X.clock, X.frames, X.room, X.hears, X.method, X.code, (X.here.setHeapUsed s₂.heap s₂.slotsUsed).setVm hW'.alike, X.tail, State.WarmedH.trans X.warmed hW', X.limits, X.bytes, X.same.trans (hsame.setVm s.vm)⟩,
      ⟨g, mk, s₂, L, E, ce, rfl, rfl, hx, hce, hcv, hcl, rfl, hL, rfl, rfl⟩, ?_⟩
    show Steps p.tables e below _ (((({ U with heap := s₂.heap, slotsUsed := s₂.slotsUsed } : State).setVm s₂.vm).setTop g).pushFrame (.throwing q))
    rw [← hs₂]
    exact hsteps
end
variable {p : Program} {l : Launch} {e : Env} {R : Room} {s : State} {m : MethodId} {args : Array Value} {below : List Frame} {meth : Method} {c : Code} {T : State} {H : Heap} {locs : List Loc} {cells slots : Nat}
theorem vx_callVX (X : Stand p l e R s m args below meth c T locs cells slots) (hexec : p.tables.exec = Jvm.exec) {own C : String} {index : Nat} {y : MethodName} {bytes : ByteArray} {maxL : Nat} {ret : Option FieldType} {hh : List (Nat × Nat × Nat × Nat)}
    (hown : s.vm.findClass own = some m.cls) (hlink : (Cond.methodLink own index y).before args s = true) (hinst : (Cond.instanceMethod y).before args s = true) (hsel : (Cond.selects C y y).before args s = true)
    (hcode : (Cond.codeWith y bytes maxL ret hh).before args s = true) (hy : y.cls ≠ "java/lang/invoke/MethodHandle" ∧ y.cls ≠ "java/lang/invoke/VarHandle")
    {W9 : Nat} {Pre : Pt → Array Value → Prop} {Post : Pt → Array Value → Option Value → Pt → Prop} {PostX : Pt → Array Value → Addr → Pt → Prop} (hK : vx_Back l R p e below s args y 3 W9 Pre Post PostX)
    {b : Addr} {cellB : Cell} (hcell : T.heap[b]? = some cellB) (hobj : cellB.vm.isStatics = false) (hcls : s.vm.findClass C = some cellB.cls)
    {g : JFrame} (hg : g.method = m) (hsize : g.locals.size = c.maxLocals) {argsL rest : List Value} (hlen : ∀ sig, parseMethodDescriptor y.desc = some sig → argsL.length = sig.parameters.length)
    (hstack : g.stack = argsL.reverse ++ .ref b :: rest) (hW : 2 * g.monitorRoom + (rest.map fun v => v.category).sum ≤ W9) (hdg : decode c.code g.pc = .ok (.invokevirtual index, 3))
    (hpre : ∀ vm₁, s.WarmedH vm₁ → Pre ⟨T.setVm vm₁, locs, cells, slots⟩ (Value.ref b :: argsL).toArray) :
    (∃ (v : Option Value) (vm₁ : Vm) (B : Pt), s.WarmedH vm₁ ∧ Stand p l e R s m args below meth c B.U B.locs B.cells B.slots ∧ Post ⟨T.setVm vm₁, locs, cells, slots⟩ (Value.ref b :: argsL).toArray v B ∧
      ∀ target, Steps p.tables e below (B.U.setTop { g with pc := g.pc + 3, stack := v.toList ++ rest }) target → Steps p.tables e below (T.setTop g) target) ∨
    (∃ (q : Addr) (vm₁ : Vm) (B : Pt), s.WarmedH vm₁ ∧ Stand p l e R s m args below meth c B.U B.locs B.cells B.slots ∧ PostX ⟨T.setVm vm₁, locs, cells, slots⟩ (Value.ref b :: argsL).toArray q B ∧
      Steps p.tables e below (T.setTop g) ((B.U.setTop { g with stack := rest }).pushFrame (.throwing q))) := by
  obtain ⟨mk, methM, hnamed, hmethM, hstM, habM⟩ := Cond.instanceMethod_spec hinst
  obtain ⟨m8, methM', cM, hn8, hmethM', -, -, -, -, -, -, hsigM⟩ := Cond.codeWith_spec hcode
  cases Option.some.inj (hn8.symm.trans hnamed)
  cases hmethM.symm.trans hmethM'
  obtain ⟨c2, r2, m2, q1, q2, q3, q4, kP, hkP, hkPi⟩ := Cond.selects_spec hsel
  cases hcls.symm.trans q1
  cases (State.methodFound?_of_named hnamed hy).symm.trans q2
  cases hnamed.symm.trans q3
  have hselP : selectMethod e.platform s.vm cellB.cls mk = .method mk := by rw [Launch.admits_selectMethod X.admits]; exact q4
  obtain ⟨vm₁, X₁, hstep₁⟩ := X.invokevirtual hexec hown hlink hnamed hmethM hstM hkP hkPi hy (a := b) (cell := cellB) hcell
    (fun z h => by rw [h] at hobj; cases hobj) hselP hmethM habM hkP hkPi (g := g) hg (argsL := argsL) (rest := rest) (hlen _ hsigM) hstack hdg
  rcases hK m meth c ⟨T.setVm vm₁, locs, cells, slots⟩ { g with stack := rest } (.invokevirtual index) mk (Value.ref b :: argsL).toArray X₁ hg hsize hdg hW (X₁.named hnamed) (hpre vm₁ X₁.warmed) with ⟨v, B, X', hpost, hsteps⟩ | ⟨q, B, X', hpost, hsteps⟩
  · exact Or.inl ⟨v, vm₁, B, X₁.warmed, X', hpost, fun target h => hstep₁ _ fun acts => by rw [doInvoke_state]; exact hsteps.trans h⟩
  · exact Or.inr ⟨q, vm₁, B, X₁.warmed, X', hpost, hstep₁ _ fun acts => by rw [doInvoke_state]; exact hsteps⟩
theorem vx_callSX (X : Stand p l e R s m args below meth c T locs cells slots) (hexec : p.tables.exec = Jvm.exec) {own : String} {index : Nat} {y : MethodName} {bytes : ByteArray} {maxL : Nat} {ret : Option FieldType} {hh : List (Nat × Nat × Nat × Nat)}
    (hown : s.vm.findClass own = some m.cls) (hlink : (Cond.methodLink own index y).before args s = true) (hstat : (Cond.static y).before args s = true) (hinit : (Cond.initialized y.cls).before args s = true)
    (hcode : (Cond.codeWith y bytes maxL ret hh).before args s = true) (hy : y.cls ≠ "java/lang/invoke/MethodHandle" ∧ y.cls ≠ "java/lang/invoke/VarHandle")
    {W9 : Nat} {Pre : Pt → Array Value → Prop} {Post : Pt → Array Value → Option Value → Pt → Prop} {PostX : Pt → Array Value → Addr → Pt → Prop} (hK : vx_Back l R p e below s args y 3 W9 Pre Post PostX)
    {g : JFrame} (hg : g.method = m) (hsize : g.locals.size = c.maxLocals) {argsL rest : List Value} (hlen : ∀ sig, parseMethodDescriptor y.desc = some sig → argsL.length = sig.parameters.length)
    (hstack : g.stack = argsL.reverse ++ rest) (hW : 2 * g.monitorRoom + (rest.map fun v => v.category).sum ≤ W9) (hdg : decode c.code g.pc = .ok (.invokestatic index, 3))
    (hpre : ∀ vm₁, s.WarmedH vm₁ → Pre ⟨T.setVm vm₁, locs, cells, slots⟩ argsL.toArray) :
    (∃ (v : Option Value) (vm₁ : Vm) (B : Pt), s.WarmedH vm₁ ∧ Stand p l e R s m args below meth c B.U B.locs B.cells B.slots ∧ Post ⟨T.setVm vm₁, locs, cells, slots⟩ argsL.toArray v B ∧
      ∀ target, Steps p.tables e below (B.U.setTop { g with pc := g.pc + 3, stack := v.toList ++ rest }) target → Steps p.tables e below (T.setTop g) target) ∨
    (∃ (q : Addr) (vm₁ : Vm) (B : Pt), s.WarmedH vm₁ ∧ Stand p l e R s m args below meth c B.U B.locs B.cells B.slots ∧ PostX ⟨T.setVm vm₁, locs, cells, slots⟩ argsL.toArray q B ∧
      Steps p.tables e below (T.setTop g) ((B.U.setTop { g with stack := rest }).pushFrame (.throwing q))) := by
  obtain ⟨mk, methM, cM, hnamed, hmethM, -, -, -, -, -, -, hsigM⟩ := Cond.codeWith_spec hcode
  have hstatic : methM.isStatic = true := Cond.static_spec hnamed hmethM hstat
  obtain ⟨kP, hkP, -⟩ := className_of_methodNamed hnamed
  have hinitP : kP.init = .initialized := Cond.initialized_spec (findClass_of_methodNamed hnamed) hkP hinit
  obtain ⟨vm₁, X₁, hstep₁⟩ := X.invokestatic hexec hown hlink hnamed hmethM hstatic hkP hinitP hy (g := g) hg (argsL := argsL) (rest := rest) (hlen _ hsigM) hstack hdg
  rcases hK m meth c ⟨T.setVm vm₁, locs, cells, slots⟩ { g with stack := rest } (.invokestatic index) mk argsL.toArray X₁ hg hsize hdg hW (X₁.named hnamed) (hpre vm₁ X₁.warmed) with ⟨v, B, X', hpost, hsteps⟩ | ⟨q, B, X', hpost, hsteps⟩
  · exact Or.inl ⟨v, vm₁, B, X₁.warmed, X', hpost, fun target h => hstep₁ _ fun acts => by rw [doInvoke_state]; exact hsteps.trans h⟩
  · exact Or.inr ⟨q, vm₁, B, X₁.warmed, X', hpost, hstep₁ _ fun acts => by rw [doInvoke_state]; exact hsteps⟩
theorem vx_callVW (X : Stand p l e R s m args below meth c T locs cells slots) (hexec : p.tables.exec = Jvm.exec) {own C : String} {index : Nat} {y : MethodName} {bytes : ByteArray} {maxL : Nat} {ret : Option FieldType} {hh : List (Nat × Nat × Nat × Nat)}
    (hown : s.vm.findClass own = some m.cls) (hlink : (Cond.methodLink own index y).before args s = true) (hinst : (Cond.instanceMethod y).before args s = true) (hsel : (Cond.selects C y y).before args s = true)
    (hcode : (Cond.codeWith y bytes maxL ret hh).before args s = true) (hy : y.cls ≠ "java/lang/invoke/MethodHandle" ∧ y.cls ≠ "java/lang/invoke/VarHandle")
    {W9 : Nat} {Pre : Pt → Array Value → Prop} {Post : Pt → Array Value → Option Value → Pt → Prop} (hK : Back l R p e below s args y 3 W9 Pre Post)
    {b : Addr} {cellB : Cell} (hcell : T.heap[b]? = some cellB) (hobj : cellB.vm.isStatics = false) (hcls : s.vm.findClass C = some cellB.cls)
    {g : JFrame} (hg : g.method = m) (hsize : g.locals.size = c.maxLocals) {argsL rest : List Value} (hlen : ∀ sig, parseMethodDescriptor y.desc = some sig → argsL.length = sig.parameters.length)
    (hstack : g.stack = argsL.reverse ++ .ref b :: rest) (hW : 2 * g.monitorRoom + (rest.map fun v => v.category).sum ≤ W9) (hdg : decode c.code g.pc = .ok (.invokevirtual index, 3))
    (hpre : ∀ vm₁, s.WarmedH vm₁ → Pre ⟨T.setVm vm₁, locs, cells, slots⟩ (Value.ref b :: argsL).toArray) :
    ∃ (v : Option Value) (vm₁ : Vm) (B : Pt), s.WarmedH vm₁ ∧ Stand p l e R s m args below meth c B.U B.locs B.cells B.slots ∧ Post ⟨T.setVm vm₁, locs, cells, slots⟩ (Value.ref b :: argsL).toArray v B ∧
      ∀ target, Steps p.tables e below (B.U.setTop { g with pc := g.pc + 3, stack := v.toList ++ rest }) target → Steps p.tables e below (T.setTop g) target := by
  obtain ⟨mk, methM, hnamed, hmethM, hstM, habM⟩ := Cond.instanceMethod_spec hinst
  obtain ⟨m8, methM', cM, hn8, hmethM', -, -, -, -, -, -, hsigM⟩ := Cond.codeWith_spec hcode
  cases Option.some.inj (hn8.symm.trans hnamed)
  cases hmethM.symm.trans hmethM'
  obtain ⟨c2, r2, m2, q1, q2, q3, q4, kP, hkP, hkPi⟩ := Cond.selects_spec hsel
  cases hcls.symm.trans q1
  cases (State.methodFound?_of_named hnamed hy).symm.trans q2
  cases hnamed.symm.trans q3
  have hselP : selectMethod e.platform s.vm cellB.cls mk = .method mk := by rw [Launch.admits_selectMethod X.admits]; exact q4
  obtain ⟨vm₁, X₁, hstep₁⟩ := X.invokevirtual hexec hown hlink hnamed hmethM hstM hkP hkPi hy (a := b) (cell := cellB) hcell
    (fun z h => by rw [h] at hobj; cases hobj) hselP hmethM habM hkP hkPi (g := g) hg (argsL := argsL) (rest := rest) (hlen _ hsigM) hstack hdg
  obtain ⟨v, B, X', hpost, hsteps⟩ := hK m meth c ⟨T.setVm vm₁, locs, cells, slots⟩ { g with stack := rest } (.invokevirtual index) mk (Value.ref b :: argsL).toArray X₁ hg hsize hdg hW (X₁.named hnamed) (hpre vm₁ X₁.warmed)
  exact ⟨v, vm₁, B, X₁.warmed, X', hpost, fun target h => hstep₁ _ fun acts => by rw [doInvoke_state]; exact hsteps.trans h⟩
abbrev vx_CVW (R : Room) (s : State) (args : Array Value) (own C : String) (index : Nat) (y : MethodName) (bytes : ByteArray) (maxL : Nat) (ret : Option FieldType) (hh : List (Nat × Nat × Nat × Nat)) (ws : List Cond) (rm : Room) (mc ms n : Nat) : Prop :=
  (rm.cells = mc ∧ rm.slots = ms ∧ rm.frames + 1 ≤ R.frames ∧ 8 + (maxL + 11) + rm.locals ≤ R.locals ∧ (∀ w ∈ ws, ∀ (a' : Array Value) (U : State), s.WarmedH U.vm → w.before a' U = true) ∧ Cond.codeWith y bytes maxL ret hh ∈ ws) ∧
  (Cond.codeWith y bytes maxL ret hh).before args s = true ∧ (Cond.initialized y.cls).before args s = true ∧ (y.cls ≠ "java/lang/invoke/MethodHandle" ∧ y.cls ≠ "java/lang/invoke/VarHandle") ∧
  (∀ sig, parseMethodDescriptor y.desc = some sig → n = sig.parameters.length) ∧ (Cond.methodLink own index y).before args s = true ∧ (Cond.instanceMethod y).before args s = true ∧ (Cond.selects C y y).before args s = true
theorem vx_cwVW {own C : String} {index maxL mc ms : Nat} {y : MethodName} {bytes : ByteArray} {ret : Option FieldType} {hh : List (Nat × Nat × Nat × Nat)} {Ts ws ws' : List Cond} {rm : Room} (n : Nat) (ht : ∀ w ∈ Ts, w.before args s = true) (hT : GoodIn Ts (wsV own index C y ws)) (hw : ws = Cond.codeWith y bytes maxL ret hh :: ws') (hrc : rm.cells = mc) (hrs : rm.slots = ms)
    (hd : y.cls = C ∧ y.cls ≠ "java/lang/invoke/MethodHandle" ∧ y.cls ≠ "java/lang/invoke/VarHandle" ∧ (parseMethodDescriptor y.desc).map (fun d => d.parameters.length) = some n) (hR : rm.frames + 1 ≤ R.frames ∧ 8 + (maxL + 11) + rm.locals ≤ R.locals) :
    vx_CVW R s args own C index y bytes maxL ret hh ws rm mc ms n := by
  obtain ⟨hC, hd⟩ := hd
  subst hC
  have ok : ∀ w ∈ wsV own index y.cls y ws, w.before args s = true := fun w h => ht w (hT w h).1
  have hG : GoodIn Ts ws := fun w h => hT w (by unfold wsV; exact List.mem_append_right _ h)
  have hc : Cond.codeWith y bytes maxL ret hh ∈ ws := by rw [hw]; exact List.mem_cons_self
  refine ⟨⟨hrc, hrs, hR.1, hR.2, pay_in ht hG, hc⟩, ht _ (hG _ hc).1, ok _ (by simp [wsV]), ⟨hd.1, hd.2.1⟩, fun sig h => ?_, ok _ (by simp [wsV]), ok _ (by simp [wsV]), ok _ (by simp [wsV])⟩
  have h2 := hd.2.2
  rw [h] at h2
  exact (Option.some.inj h2).symm
theorem vx_runVW {y : MethodName} {bytes cc : ByteArray} {maxL nL mc ms n index : Nat} {ret : Option FieldType} {hh : List (Nat × Nat × Nat × Nat)} {ws : List Cond} {rm : Room} {Pc : Array Value → State → Prop} {Qc : Array Value → State → Outcome → State → Prop} {free : Addr → Prop} {Ts : List Cond} {own C : String} {b : Addr} {As rest : List Value} {g : JFrame}
    (S : CallFix p m c cc nL s args Ts own) (hM : Met l y ws rm Pc Qc mc ms free) (cw : vx_CVW R s args own C index y bytes maxL ret hh ws rm mc ms n) (hp : PreV s H C b Pc As)
    (hg : g.method = m) (hn : As.length = n) (hsize : g.locals.size = nL) (hstack : g.stack = As.reverse ++ .ref b :: rest) (hW : 2 * g.monitorRoom + (rest.map fun v => v.category).sum ≤ 8) (hdg : decode cc g.pc = .ok (.invokevirtual index, 3)) (hf : cells + mc ≤ R.cells ∧ slots + ms ≤ R.slots) :
    va_Run p l e R s m args below meth c H locs cells slots mc ms g rest (Qc (Value.ref b :: As).toArray) free := by
  obtain ⟨⟨hrc, hrs, hfr, hlo, hws, hcw⟩, hcode, hini, hy, hlen, hl, hin, hse⟩ := cw
  have hK : Back l R p e below s args y 3 8 (PreOf R mc ms Pc) (PostOf Qc mc ms free) := va_backW (hh := hh) (bytes := bytes) (maxL := maxL) (ret := ret) hM hp.1 hrc hrs hfr hlo hws hcw (fun a' U hW => word_at hW (Or.inl (by first | rfl | simp [Cond.onTables, Cond.keeps, Cond.steady])) hini)
  obtain ⟨hx, hb, hml, ho, -⟩ := S
  obtain ⟨-, ⟨cellB, hcB, hoB, hclB⟩, hPc⟩ := hp
  intro T hT X
  obtain ⟨v, vm₁, ⟨U', l2, c2, s2⟩, hW₁, X', ⟨g', mk, t, L, e1, e2, hq, h1, hL, h2, h3⟩, st⟩ := vx_callVW X hx (C := C) (hh := hh) (bytes := bytes) (maxL := maxL) (ret := ret) ho hl hin hse hcode hy hK (by rw [hT]; exact hcB) hoB hclB hg (hsize.trans hml.symm) (argsL := As) (rest := rest) (fun sig h => hn.trans (hlen sig h)) hstack hW (by rw [hb]; exact hdg)
    (fun vm₁ hW₁ => ⟨hf.1, hf.2, hPc (T.setVm vm₁) hT hW₁⟩)
  dsimp only [Pt.U, Pt.locs, Pt.cells, Pt.slots] at X' e1 e2 h1 h2 h3 st
  subst h1; subst h2; subst h3
  exact ⟨v, (T.setVm vm₁).calling g' mk (Value.ref b :: As).toArray, t, U', L, hT, X', hL, e1, e2, hq, st⟩
section
variable {y : MethodName} {bytes cc : ByteArray} {maxL nL mc ms n index : Nat} {ret : Option FieldType} {ws : List Cond} {rm : Room} {Pc : Array Value → State → Prop} {Qc : Array Value → State → Outcome → State → Prop} {XC : String → State → State → Prop} {free : Addr → Prop} {Ts : List Cond} {own C : String} {b : Addr} {As rest : List Value} {g : JFrame}
theorem vx_runVX {hh : List (Nat × Nat × Nat × Nat)} (S : CallFix p m c cc nL s args Ts own) (hM : vx_Met l y ws rm Pc Qc XC mc ms free) (cw : vx_CVW R s args own C index y bytes maxL ret hh ws rm mc ms n) (hp : PreV s H C b Pc As)
    (hg : g.method = m) (hn : As.length = n) (hsize : g.locals.size = nL) (hstack : g.stack = As.reverse ++ .ref b :: rest) (hW : 2 * g.monitorRoom + (rest.map fun v => v.category).sum ≤ 8) (hdg : decode cc g.pc = .ok (.invokevirtual index, 3)) (hf : cells + mc ≤ R.cells ∧ slots + ms ≤ R.slots) :
    vx_Run p l e R s m args below meth c H locs cells slots mc ms g rest (Qc (Value.ref b :: As).toArray) XC free := by
  obtain ⟨⟨hrc, hrs, hfr, hlo, hws, hcw⟩, hcode, hini, hy, hlen, hl, hin, hse⟩ := cw
  have hK : vx_Back l R p e below s args y 3 8 (PreOf R mc ms Pc) (PostOf Qc mc ms free) (vx_Post XC mc ms free) := vx_backW (hh := hh) (bytes := bytes) (maxL := maxL) (ret := ret) hM hp.1 hrc hrs hfr hlo hws hcw (fun a' U hW => word_at hW (Or.inl (by first | rfl | simp [Cond.onTables, Cond.keeps, Cond.steady])) hini)
  obtain ⟨hx, hb, hml, ho, -⟩ := S
  obtain ⟨-, ⟨cellB, hcB, hoB, hclB⟩, hPc⟩ := hp
  intro T hT X
  rcases vx_callVX X hx (C := C) (hh := hh) (bytes := bytes) (maxL := maxL) (ret := ret) ho hl hin hse hcode hy hK (by rw [hT]; exact hcB) hoB hclB hg (hsize.trans hml.symm) (argsL := As) (rest := rest) (fun sig h => hn.trans (hlen sig h)) hstack hW (by rw [hb]; exact hdg)
    (fun vm₁ hW₁ => ⟨hf.1, hf.2, hPc (T.setVm vm₁) hT hW₁⟩) with ⟨v, vm₁, ⟨U', l2, c2, s2⟩, hW₁, X', ⟨g', mk, t, L, e1, e2, hq, h1, hL, h2, h3⟩, st⟩ | ⟨q, vm₁, ⟨U', l2, c2, s2⟩, hW₁, X', ⟨g', mk, t, L, E, ce, e1, e2, hq, hce, hcv, hcl, h1, hL, h2, h3⟩, st⟩
  · dsimp only [Pt.U, Pt.locs, Pt.cells, Pt.slots] at X' e1 e2 h1 h2 h3 st
    subst h1; subst h2; subst h3
    exact Or.inl ⟨v, (T.setVm vm₁).calling g' mk (Value.ref b :: As).toArray, t, U', L, hT, X', hL, e1, e2, hq, st⟩
  · dsimp only [Pt.U, Pt.locs, Pt.cells, Pt.slots] at X' e1 e2 h1 h2 h3 st hcl
    subst h1; subst h2; subst h3
    exact Or.inr ⟨q, (T.setVm vm₁).calling g' mk (Value.ref b :: As).toArray, t, U', L, E, ce, hT, X', hL, e1, e2, hq, hce, hcv, vx_cls hW₁ hcl, st⟩
theorem vx_runSX {hh : List (Nat × Nat × Nat × Nat)} (S : CallFix p m c cc nL s args Ts own) (hM : vx_Met l y ws rm Pc Qc XC mc ms free) (cw : vx_CSW R s args own index y bytes maxL ret hh ws rm mc ms n) (hp : PreS s H Pc As)
    (hg : g.method = m) (hn : As.length = n) (hsize : g.locals.size = nL) (hstack : g.stack = As.reverse ++ rest) (hW : 2 * g.monitorRoom + (rest.map fun v => v.category).sum ≤ 8) (hdg : decode cc g.pc = .ok (.invokestatic index, 3)) (hf : cells + mc ≤ R.cells ∧ slots + ms ≤ R.slots) :
    vx_Run p l e R s m args below meth c H locs cells slots mc ms g rest (Qc As.toArray) XC free := by
  obtain ⟨⟨hrc, hrs, hfr, hlo, hws, hcw⟩, hcode, hini, hy, hlen, hl, hstt⟩ := cw
  have hK : vx_Back l R p e below s args y 3 8 (PreOf R mc ms Pc) (PostOf Qc mc ms free) (vx_Post XC mc ms free) := vx_backW (hh := hh) (bytes := bytes) (maxL := maxL) (ret := ret) hM hp.1 hrc hrs hfr hlo hws hcw (fun a' U hW => word_at hW (Or.inl (by first | rfl | simp [Cond.onTables, Cond.keeps, Cond.steady])) hini)
  obtain ⟨hx, hb, hml, ho, -⟩ := S
  intro T hT X
  rcases vx_callSX X hx (hh := hh) (bytes := bytes) (maxL := maxL) (ret := ret) ho hl hstt hini hcode hy hK hg (hsize.trans hml.symm) (argsL := As) (rest := rest) (fun sig h => hn.trans (hlen sig h)) hstack hW (by rw [hb]; exact hdg)
    (fun vm₁ hW₁ => ⟨hf.1, hf.2, hp.2 (T.setVm vm₁) hT hW₁⟩) with ⟨v, vm₁, ⟨U', l2, c2, s2⟩, hW₁, X', ⟨g', mk, t, L, e1, e2, hq, h1, hL, h2, h3⟩, st⟩ | ⟨q, vm₁, ⟨U', l2, c2, s2⟩, hW₁, X', ⟨g', mk, t, L, E, ce, e1, e2, hq, hce, hcv, hcl, h1, hL, h2, h3⟩, st⟩
  · dsimp only [Pt.U, Pt.locs, Pt.cells, Pt.slots] at X' e1 e2 h1 h2 h3 st
    subst h1; subst h2; subst h3
    exact Or.inl ⟨v, (T.setVm vm₁).calling g' mk As.toArray, t, U', L, hT, X', hL, e1, e2, hq, st⟩
  · dsimp only [Pt.U, Pt.locs, Pt.cells, Pt.slots] at X' e1 e2 h1 h2 h3 st hcl
    subst h1; subst h2; subst h3
    exact Or.inr ⟨q, (T.setVm vm₁).calling g' mk As.toArray, t, U', L, E, ce, hT, X', hL, e1, e2, hq, hce, hcv, vx_cls hW₁ hcl, st⟩
end
end VXH
theorem vx_ofWH {l : Launch} {y : MethodName} {ws ws' : List Cond} {rm : Room} {Pc : Array Value → State → Prop} {Qc : Array Value → State → Outcome → State → Prop} {XC : String → State → State → Prop} {mc ms : Nat} {free : Addr → Prop} {cc : ByteArray} {maxL : Nat} {ret : Option FieldType} {hh : List (Nat × Nat × Nat × Nat)}
    (hy : plainName y.cls = true) (hw : ws = Cond.codeWith y cc maxL ret hh :: ws')
    (body : ∀ p e s m args below meth c s₁, BodyLoose p l y (headSpec ws rm) cc maxL ret e s m args below meth c s₁ → c.maxLocals = maxL → Pc args s →
      W p l e (headSpec ws rm).room s m args below meth c s.heap [] 0 0 (vx_MQ below Qc XC args s mc ms free) (entryFrame m args maxL)) : vx_Met l y ws rm Pc Qc XC mc ms free := by
  refine MetFree.of_bodyS (code := cc) (maxLocals := maxL) (ret := ret) hy ?_ ?_
  · intro args s m h hn
    obtain ⟨m9, meth, c, hn9, h1, h2, h3, h4, -, h5, h6, -⟩ := Cond.codeWith_spec (atoms_spec (ws := ws) h _ (by rw [hw]; exact List.mem_cons_self))
    cases hn.symm.trans hn9
    exact ⟨meth, c, h1, h2, h3, h4, h5, h6⟩
  · intro p e s m args below meth c s₁ B hml hP _
    have hh0 : s₁.heap = s.heap := by rw [B.state]; rfl
    obtain ⟨t, a1, o, b1, b2, b3⟩ := body p e s m args below meth c s₁ B hml hP s₁ hh0 (Stand.of_body B)
    exact ⟨t, o, a1, b1, b2, b3⟩
/-! ===== END ===== -/
end
section
/-! ===== BEGIN printed: names, fields, word lists, decode rows ===== -/
def RX0 : String := "NailRods$Fogger"
def TX0 : u_T := fun k => match k with
  | 0 => ("NailRods$Fogger", "keptBack", "I", false)
  | 1 => ("NailRods$Fogger", "coins", "I", false)
  | 2 => ("NailRods$Fogger", "bought", "I", false)
  | 3 => ("NailRods$Fogger", "paid", "I", false)
  | 4 => ("NailRods$Fogger", "earned", "I", false)
  | _ => ("NailRods$Fogger", "loadWorth", "I", false)
def tyX0 : Nat → FieldType := fun k => match k with
  | 0 => .int
  | 1 => .int
  | 2 => .int
  | 3 => .int
  | 4 => .int
  | _ => .int
abbrev wsX00 : List Cond := u_ws RX0 TX0 6
theorem nmX0 : ∀ a, a < 6 → ∀ b, b < 6 → a ≠ b → (TX0 a).2.1 ≠ (TX0 b).2.1 := by decide +kernel
theorem tyX0_ok : ∀ k, k < 6 → parseFieldDescriptor (TX0 k).2.2.1 = some (tyX0 k) := by decide +kernel
abbrev cX0_init : ByteArray := prog_2_method_1_code
def yX0_init : MethodName := ⟨RX0, "<init>", "()V"⟩
abbrev cX0_copyFrom : ByteArray := prog_2_method_2_code
def yX0_copyFrom : MethodName := ⟨RX0, "copyFrom", "(LNailRods$Fogger;)V"⟩
abbrev cX0_buyBags : ByteArray := prog_2_method_3_code
def yX0_buyBags : MethodName := ⟨RX0, "buyBags", "(LNailRods$Nailer;)V"⟩
abbrev cX0_collectDebt : ByteArray := prog_2_method_4_code
def yX0_collectDebt : MethodName := ⟨RX0, "collectDebt", "(LNailRods$Nailer;)V"⟩
abbrev cX0_deliver : ByteArray := prog_2_method_5_code
def yX0_deliver : MethodName := ⟨RX0, "deliver", "()V"⟩
def RX1 : String := "NailRods$Nailer"
def TX1 : u_T := fun k => match k with
  | 0 => ("NailRods$Nailer", "skill", "I", false)
  | 1 => ("NailRods$Nailer", "kind", "I", false)
  | 2 => ("NailRods$Nailer", "fogger", "I", false)
  | 3 => ("NailRods$Nailer", "rods", "I", false)
  | 4 => ("NailRods$Nailer", "ounces", "I", false)
  | 5 => ("NailRods$Nailer", "heat", "I", false)
  | 6 => ("NailRods$Nailer", "coal", "I", false)
  | 7 => ("NailRods$Nailer", "coins", "I", false)
  | 8 => ("NailRods$Nailer", "owed", "I", false)
  | 9 => ("NailRods$Nailer", "scrap", "I", false)
  | 10 => ("NailRods$Nailer", "burnt", "I", false)
  | 11 => ("NailRods$Nailer", "good", "I", false)
  | 12 => ("NailRods$Nailer", "loose", "[I", true)
  | _ => ("NailRods$Nailer", "bags", "[I", true)
def tyX1 : Nat → FieldType := fun k => match k with
  | 0 => .int
  | 1 => .int
  | 2 => .int
  | 3 => .int
  | 4 => .int
  | 5 => .int
  | 6 => .int
  | 7 => .int
  | 8 => .int
  | 9 => .int
  | 10 => .int
  | 11 => .int
  | 12 => .array .int
  | _ => .array .int
abbrev wsX10 : List Cond := u_ws RX1 TX1 14
theorem nmX1 : ∀ a, a < 14 → ∀ b, b < 14 → a ≠ b → (TX1 a).2.1 ≠ (TX1 b).2.1 := by decide +kernel
theorem tyX1_ok : ∀ k, k < 14 → parseFieldDescriptor (TX1 k).2.2.1 = some (tyX1 k) := by decide +kernel
abbrev cX1_init : ByteArray := prog_3_method_1_code
def yX1_init : MethodName := ⟨RX1, "<init>", "()V"⟩
abbrev cX1_begin : ByteArray := prog_3_method_2_code
def yX1_begin : MethodName := ⟨RX1, "begin", "(III)V"⟩
abbrev cX1_copyFrom : ByteArray := prog_3_method_3_code
def yX1_copyFrom : MethodName := ⟨RX1, "copyFrom", "(LNailRods$Nailer;)V"⟩
abbrev cX1_workHours : ByteArray := prog_3_method_4_code
def yX1_workHours : MethodName := ⟨RX1, "workHours", "(I)I"⟩
abbrev cX1_workHour : ByteArray := prog_3_method_5_code
def yX1_workHour : MethodName := ⟨RX1, "workHour", "()I"⟩
abbrev cX1_tendFire : ByteArray := prog_3_method_6_code
def yX1_tendFire : MethodName := ⟨RX1, "tendFire", "()V"⟩
abbrev cX1_head : ByteArray := prog_3_method_7_code
def yX1_head : MethodName := ⟨RX1, "head", "(I)I"⟩
abbrev cX1_headFromHand : ByteArray := prog_3_method_8_code
def yX1_headFromHand : MethodName := ⟨RX1, "headFromHand", "(I)I"⟩
abbrev cX1_store : ByteArray := prog_3_method_9_code
def yX1_store : MethodName := ⟨RX1, "store", "(I)V"⟩
abbrev cX1_number : ByteArray := prog_3_method_10_code
def yX1_number : MethodName := ⟨RX1, "number", "(I)I"⟩
abbrev cX1_shareOfTotal : ByteArray := prog_3_method_11_code
def yX1_shareOfTotal : MethodName := ⟨RX1, "shareOfTotal", "(I)I"⟩
abbrev cX1_sumOf : ByteArray := prog_3_method_12_code
def yX1_sumOf : MethodName := ⟨RX1, "sumOf", "([I)I"⟩
abbrev cX1_addToDigest : ByteArray := prog_3_method_13_code
def yX1_addToDigest : MethodName := ⟨RX1, "addToDigest", "(J)J"⟩
def RX2 : String := "NailRods$Trade"
def TX2 : u_T := fun k => match k with
  | 0 => ("NailRods$Trade", "hour", "I", false)
  | 1 => ("NailRods$Trade", "nailerCount", "I", false)
  | 2 => ("NailRods$Trade", "nailers", "[LNailRods$Nailer;", true)
  | _ => ("NailRods$Trade", "foggers", "[LNailRods$Fogger;", true)
def tyX2 : Nat → FieldType := fun k => match k with
  | 0 => .int
  | 1 => .int
  | 2 => .array (.object "NailRods$Nailer")
  | _ => .array (.object "NailRods$Fogger")
abbrev wsX20 : List Cond := u_ws RX2 TX2 4
theorem nmX2 : ∀ a, a < 4 → ∀ b, b < 4 → a ≠ b → (TX2 a).2.1 ≠ (TX2 b).2.1 := by decide +kernel
theorem tyX2_ok : ∀ k, k < 4 → parseFieldDescriptor (TX2 k).2.2.1 = some (tyX2 k) := by decide +kernel
abbrev cX2_init : ByteArray := prog_4_method_1_code
def yX2_init : MethodName := ⟨RX2, "<init>", "()V"⟩
abbrev cX2_copyFrom : ByteArray := prog_4_method_2_code
def yX2_copyFrom : MethodName := ⟨RX2, "copyFrom", "(LNailRods$Trade;)V"⟩
abbrev cX2_goBy : ByteArray := prog_4_method_3_code
def yX2_goBy : MethodName := ⟨RX2, "goBy", "(I)I"⟩
abbrev cX2_goByOne : ByteArray := prog_4_method_4_code
def yX2_goByOne : MethodName := ⟨RX2, "goByOne", "()I"⟩
abbrev cX2_reckonWeek : ByteArray := prog_4_method_5_code
def yX2_reckonWeek : MethodName := ⟨RX2, "reckonWeek", "()V"⟩
abbrev cX2_total : ByteArray := prog_4_method_6_code
def yX2_total : MethodName := ⟨RX2, "total", "(I)I"⟩
abbrev cX2_warehouseBags : ByteArray := prog_4_method_7_code
def yX2_warehouseBags : MethodName := ⟨RX2, "warehouseBags", "()I"⟩
abbrev cX2_sumOfShares : ByteArray := prog_4_method_8_code
def yX2_sumOfShares : MethodName := ⟨RX2, "sumOfShares", "(I)I"⟩
abbrev cX2_foggerNumber : ByteArray := prog_4_method_9_code
def yX2_foggerNumber : MethodName := ⟨RX2, "foggerNumber", "(II)I"⟩
abbrev cX2_workersFor : ByteArray := prog_4_method_10_code
def yX2_workersFor : MethodName := ⟨RX2, "workersFor", "(I)I"⟩
def RX3 : String := "NailRods"
def TX3 : u_T := fun k => match k with
  | 0 => ("NailRods", "trade", "LNailRods$Trade;", true)
  | 1 => ("NailRods", "foreseen", "LNailRods$Trade;", true)
  | _ => ("NailRods", "trial", "LNailRods$Nailer;", true)
def tyX3 : Nat → FieldType := fun k => match k with
  | 0 => .object "NailRods$Trade"
  | 1 => .object "NailRods$Trade"
  | _ => .object "NailRods$Nailer"
abbrev wsX30 : List Cond := u_ws RX3 TX3 3
theorem nmX3 : ∀ a, a < 3 → ∀ b, b < 3 → a ≠ b → (TX3 a).2.1 ≠ (TX3 b).2.1 := by decide +kernel
theorem tyX3_ok : ∀ k, k < 3 → parseFieldDescriptor (TX3 k).2.2.1 = some (tyX3 k) := by decide +kernel
abbrev cX3_init : ByteArray := prog_1_method_1_code
def yX3_init : MethodName := ⟨RX3, "<init>", "()V"⟩
abbrev cX3_nailer : ByteArray := prog_1_method_2_code
def yX3_nailer : MethodName := ⟨RX3, "nailer", "(III)I"⟩
abbrev cX3_lend : ByteArray := prog_1_method_3_code
def yX3_lend : MethodName := ⟨RX3, "lend", "(II)I"⟩
abbrev cX3_coal : ByteArray := prog_1_method_4_code
def yX3_coal : MethodName := ⟨RX3, "coal", "(II)I"⟩
abbrev cX3_make : ByteArray := prog_1_method_5_code
def yX3_make : MethodName := ⟨RX3, "make", "(II)I"⟩
abbrev cX3_change : ByteArray := prog_1_method_6_code
def yX3_change : MethodName := ⟨RX3, "change", "(II)I"⟩
abbrev cX3_told : ByteArray := prog_1_method_7_code
def yX3_told : MethodName := ⟨RX3, "told", "(II)I"⟩
abbrev cX3_nails : ByteArray := prog_1_method_8_code
def yX3_nails : MethodName := ⟨RX3, "nails", "(III)I"⟩
abbrev cX3_keep : ByteArray := prog_1_method_9_code
def yX3_keep : MethodName := ⟨RX3, "keep", "(II)I"⟩
abbrev cX3_fogger : ByteArray := prog_1_method_10_code
def yX3_fogger : MethodName := ⟨RX3, "fogger", "(II)I"⟩
abbrev cX3_count : ByteArray := prog_1_method_11_code
def yX3_count : MethodName := ⟨RX3, "count", "(I)I"⟩
abbrev cX3_pass : ByteArray := prog_1_method_12_code
def yX3_pass : MethodName := ⟨RX3, "pass", "(I)I"⟩
abbrev cX3_rate : ByteArray := prog_1_method_13_code
def yX3_rate : MethodName := ⟨RX3, "rate", "(I)I"⟩
abbrev cX3_when : ByteArray := prog_1_method_14_code
def yX3_when : MethodName := ⟨RX3, "when", "(II)I"⟩
abbrev cX3_foresee : ByteArray := prog_1_method_15_code
def yX3_foresee : MethodName := ⟨RX3, "foresee", "(II)I"⟩
abbrev cX3_advise : ByteArray := prog_1_method_16_code
def yX3_advise : MethodName := ⟨RX3, "advise", "(II)I"⟩
abbrev cX3_richest : ByteArray := prog_1_method_17_code
def yX3_richest : MethodName := ⟨RX3, "richest", "()I"⟩
abbrev cX3_mean : ByteArray := prog_1_method_18_code
def yX3_mean : MethodName := ⟨RX3, "mean", "()D"⟩
abbrev cX3_digest : ByteArray := prog_1_method_19_code
def yX3_digest : MethodName := ⟨RX3, "digest", "()J"⟩
abbrev cX3_needNailer : ByteArray := prog_1_method_20_code
def yX3_needNailer : MethodName := ⟨RX3, "needNailer", "(I)V"⟩
abbrev cX3_needIndex : ByteArray := prog_1_method_21_code
def yX3_needIndex : MethodName := ⟨RX3, "needIndex", "(II)V"⟩
abbrev cX3_needWithin : ByteArray := prog_1_method_22_code
def yX3_needWithin : MethodName := ⟨RX3, "needWithin", "(III)V"⟩
def RX4 : String := "NailRodsModel"
def TX4 : u_T := fun k => match k with
  | 0 => ("NailRodsModel", "thrown", "I", false)
  | 1 => ("NailRodsModel", "hour", "I", false)
  | 2 => ("NailRodsModel", "many", "I", false)
  | 3 => ("NailRodsModel", "n", "[I", false)
  | 4 => ("NailRodsModel", "f", "[I", false)
  | 5 => ("NailRodsModel", "nAhead", "[I", false)
  | 6 => ("NailRodsModel", "fAhead", "[I", false)
  | _ => ("NailRodsModel", "worths", "[I", true)
def tyX4 : Nat → FieldType := fun k => match k with
  | 0 => .int
  | 1 => .int
  | 2 => .int
  | 3 => .array .int
  | 4 => .array .int
  | 5 => .array .int
  | 6 => .array .int
  | _ => .array .int
abbrev wsX40 : List Cond := u_ws RX4 TX4 8
theorem nmX4 : ∀ a, a < 8 → ∀ b, b < 8 → a ≠ b → (TX4 a).2.1 ≠ (TX4 b).2.1 := by decide +kernel
theorem tyX4_ok : ∀ k, k < 8 → parseFieldDescriptor (TX4 k).2.2.1 = some (tyX4 k) := by decide +kernel
abbrev cX4_thrown : ByteArray := prog_6_method_1_code
def yX4_thrown : MethodName := ⟨RX4, "thrown", "()I"⟩
abbrev cX4_no : ByteArray := prog_6_method_2_code
def yX4_no : MethodName := ⟨RX4, "no", "(I)I"⟩
abbrev cX4_isIn : ByteArray := prog_6_method_3_code
def yX4_isIn : MethodName := ⟨RX4, "isIn", "(III)Z"⟩
abbrev cX4_init : ByteArray := prog_6_method_4_code
def yX4_init : MethodName := ⟨RX4, "<init>", "()V"⟩
abbrev cX4_isThere : ByteArray := prog_6_method_5_code
def yX4_isThere : MethodName := ⟨RX4, "isThere", "(I)Z"⟩
abbrev cX4_isFour : ByteArray := prog_6_method_6_code
def yX4_isFour : MethodName := ⟨RX4, "isFour", "(I)Z"⟩
abbrev cX4_work : ByteArray := prog_6_method_7_code
def yX4_work : MethodName := ⟨RX4, "work", "([II)I"⟩
abbrev cX4_hasIron : ByteArray := prog_6_method_8_code
def yX4_hasIron : MethodName := ⟨RX4, "hasIron", "([II)Z"⟩
abbrev cX4_priceOf : ByteArray := prog_6_method_9_code
def yX4_priceOf : MethodName := ⟨RX4, "priceOf", "(II)I"⟩
abbrev cX4_reckon : ByteArray := prog_6_method_10_code
def yX4_reckon : MethodName := ⟨RX4, "reckon", "([I[II[I)V"⟩
abbrev cX4_pass : ByteArray := prog_6_method_11_code
def yX4_pass : MethodName := ⟨RX4, "pass", "([I[II)I"⟩
abbrev cX4_lookAhead : ByteArray := prog_6_method_12_code
def yX4_lookAhead : MethodName := ⟨RX4, "lookAhead", "()V"⟩
abbrev cX4_passAhead : ByteArray := prog_6_method_13_code
def yX4_passAhead : MethodName := ⟨RX4, "passAhead", "(I)V"⟩
abbrev cX4_nailer : ByteArray := prog_6_method_14_code
def yX4_nailer : MethodName := ⟨RX4, "nailer", "(III)I"⟩
abbrev cX4_lend : ByteArray := prog_6_method_15_code
def yX4_lend : MethodName := ⟨RX4, "lend", "(II)I"⟩
abbrev cX4_coal : ByteArray := prog_6_method_16_code
def yX4_coal : MethodName := ⟨RX4, "coal", "(II)I"⟩
abbrev cX4_put : ByteArray := prog_6_method_17_code
def yX4_put : MethodName := ⟨RX4, "put", "(II)I"⟩
abbrev cX4_make : ByteArray := prog_6_method_18_code
def yX4_make : MethodName := ⟨RX4, "make", "(II)I"⟩
abbrev cX4_change : ByteArray := prog_6_method_19_code
def yX4_change : MethodName := ⟨RX4, "change", "(II)I"⟩
abbrev cX4_told : ByteArray := prog_6_method_20_code
def yX4_told : MethodName := ⟨RX4, "told", "(II)I"⟩
abbrev cX4_nails : ByteArray := prog_6_method_21_code
def yX4_nails : MethodName := ⟨RX4, "nails", "(III)I"⟩
abbrev cX4_keep : ByteArray := prog_6_method_22_code
def yX4_keep : MethodName := ⟨RX4, "keep", "(II)I"⟩
abbrev cX4_nailersOf : ByteArray := prog_6_method_23_code
def yX4_nailersOf : MethodName := ⟨RX4, "nailersOf", "(I)I"⟩
abbrev cX4_foggerTold : ByteArray := prog_6_method_24_code
def yX4_foggerTold : MethodName := ⟨RX4, "foggerTold", "(II)I"⟩
abbrev cX4_fogger : ByteArray := prog_6_method_25_code
def yX4_fogger : MethodName := ⟨RX4, "fogger", "(II)I"⟩
abbrev cX4_sum : ByteArray := prog_6_method_26_code
def yX4_sum : MethodName := ⟨RX4, "sum", "([II)I"⟩
abbrev cX4_sumOfFour : ByteArray := prog_6_method_27_code
def yX4_sumOfFour : MethodName := ⟨RX4, "sumOfFour", "([II)I"⟩
abbrev cX4_hot : ByteArray := prog_6_method_28_code
def yX4_hot : MethodName := ⟨RX4, "hot", "()I"⟩
abbrev cX4_bought : ByteArray := prog_6_method_29_code
def yX4_bought : MethodName := ⟨RX4, "bought", "([I)I"⟩
abbrev cX4_summed : ByteArray := prog_6_method_30_code
def yX4_summed : MethodName := ⟨RX4, "summed", "([I[II)I"⟩
abbrev cX4_counted : ByteArray := prog_6_method_31_code
def yX4_counted : MethodName := ⟨RX4, "counted", "(I)I"⟩
abbrev cX4_count : ByteArray := prog_6_method_32_code
def yX4_count : MethodName := ⟨RX4, "count", "(I)I"⟩
abbrev cX4_pass_ : ByteArray := prog_6_method_33_code
def yX4_pass_ : MethodName := ⟨RX4, "pass", "(I)I"⟩
abbrev cX4_rate : ByteArray := prog_6_method_34_code
def yX4_rate : MethodName := ⟨RX4, "rate", "(I)I"⟩
abbrev cX4_when : ByteArray := prog_6_method_35_code
def yX4_when : MethodName := ⟨RX4, "when", "(II)I"⟩
abbrev cX4_foresee : ByteArray := prog_6_method_36_code
def yX4_foresee : MethodName := ⟨RX4, "foresee", "(II)I"⟩
abbrev cX4_worthOf : ByteArray := prog_6_method_37_code
def yX4_worthOf : MethodName := ⟨RX4, "worthOf", "(III)I"⟩
abbrev cX4_advise : ByteArray := prog_6_method_38_code
def yX4_advise : MethodName := ⟨RX4, "advise", "(II)I"⟩
abbrev cX4_richest : ByteArray := prog_6_method_39_code
def yX4_richest : MethodName := ⟨RX4, "richest", "()I"⟩
abbrev cX4_wealth : ByteArray := prog_6_method_40_code
def yX4_wealth : MethodName := ⟨RX4, "wealth", "(I)I"⟩
abbrev cX4_mean : ByteArray := prog_6_method_41_code
def yX4_mean : MethodName := ⟨RX4, "mean", "()D"⟩
abbrev cX4_digest : ByteArray := prog_6_method_42_code
def yX4_digest : MethodName := ⟨RX4, "digest", "()J"⟩
def RJ9 : String := "java/lang/Math"
def TJ9 : u_T := fun k => match k with
  | _ => ("", "", "", false)
def tyJ9 : Nat → FieldType := fun k => match k with
  | _ => .int
abbrev wsJ90 : List Cond := u_ws RJ9 TJ9 0
theorem nmJ9 : ∀ a, a < 0 → ∀ b, b < 0 → a ≠ b → (TJ9 a).2.1 ≠ (TJ9 b).2.1 := by decide +kernel
theorem tyJ9_ok : ∀ k, k < 0 → parseFieldDescriptor (TJ9 k).2.2.1 = some (tyJ9 k) := by decide +kernel
abbrev cJ9_max_7cf53 : ByteArray := prog_11_method_65_code
def yJ9_max_7cf53 : MethodName := ⟨RJ9, "max", "(II)I"⟩
abbrev cJ9_min_7cf53 : ByteArray := prog_11_method_69_code
def yJ9_min_7cf53 : MethodName := ⟨RJ9, "min", "(II)I"⟩
def RJ0 : String := "java/lang/String"
def TJ0 : u_T := fun k => match k with
  | _ => ("", "", "", false)
def tyJ0 : Nat → FieldType := fun k => match k with
  | _ => .int
abbrev wsJ00 : List Cond := u_ws RJ0 TJ0 0
theorem nmJ0 : ∀ a, a < 0 → ∀ b, b < 0 → a ≠ b → (TJ0 a).2.1 ≠ (TJ0 b).2.1 := by decide +kernel
theorem tyJ0_ok : ∀ k, k < 0 → parseFieldDescriptor (TJ0 k).2.2.1 = some (tyJ0 k) := by decide +kernel
def RJ10 : String := "java/lang/System"
def TJ10 : u_T := fun k => match k with
  | _ => ("", "", "", false)
def tyJ10 : Nat → FieldType := fun k => match k with
  | _ => .int
abbrev wsJ100 : List Cond := u_ws RJ10 TJ10 0
theorem nmJ10 : ∀ a, a < 0 → ∀ b, b < 0 → a ≠ b → (TJ10 a).2.1 ≠ (TJ10 b).2.1 := by decide +kernel
theorem tyJ10_ok : ∀ k, k < 0 → parseFieldDescriptor (TJ10 k).2.2.1 = some (tyJ10 k) := by decide +kernel
def RL : String := "NailRodsLaw"
abbrev cL_nailer : ByteArray := method_3_code
def yL_nailer : MethodName := ⟨RL, "nailer", "(LNailRods;III[J)I"⟩
abbrev cL_lend : ByteArray := method_4_code
def yL_lend : MethodName := ⟨RL, "lend", "(LNailRods;II[J)I"⟩
abbrev cL_coal : ByteArray := method_5_code
def yL_coal : MethodName := ⟨RL, "coal", "(LNailRods;II[J)I"⟩
abbrev cL_make : ByteArray := method_6_code
def yL_make : MethodName := ⟨RL, "make", "(LNailRods;II[J)I"⟩
abbrev cL_change : ByteArray := method_7_code
def yL_change : MethodName := ⟨RL, "change", "(LNailRods;II[J)I"⟩
abbrev cL_told : ByteArray := method_8_code
def yL_told : MethodName := ⟨RL, "told", "(LNailRods;II[J)I"⟩
abbrev cL_nails : ByteArray := method_9_code
def yL_nails : MethodName := ⟨RL, "nails", "(LNailRods;III[J)I"⟩
abbrev cL_keep : ByteArray := method_10_code
def yL_keep : MethodName := ⟨RL, "keep", "(LNailRods;II[J)I"⟩
abbrev cL_fogger : ByteArray := method_11_code
def yL_fogger : MethodName := ⟨RL, "fogger", "(LNailRods;II[J)I"⟩
abbrev cL_count : ByteArray := method_12_code
def yL_count : MethodName := ⟨RL, "count", "(LNailRods;I[J)I"⟩
abbrev cL_pass : ByteArray := method_13_code
def yL_pass : MethodName := ⟨RL, "pass", "(LNailRods;I[J)I"⟩
abbrev cL_rate : ByteArray := method_14_code
def yL_rate : MethodName := ⟨RL, "rate", "(LNailRods;I[J)I"⟩
abbrev cL_when : ByteArray := method_15_code
def yL_when : MethodName := ⟨RL, "when", "(LNailRods;II[J)I"⟩
abbrev cL_foresee : ByteArray := method_16_code
def yL_foresee : MethodName := ⟨RL, "foresee", "(LNailRods;II[J)I"⟩
abbrev cL_advise : ByteArray := method_17_code
def yL_advise : MethodName := ⟨RL, "advise", "(LNailRods;II[J)I"⟩
abbrev cL_law : ByteArray := code
def yL_law : MethodName := ⟨RL, "law", "([I)Z"⟩
abbrev vwCl : List vw_C := [(RX0, TX0, 6), (RX1, TX1, 14), (RX2, TX2, 4), (RX3, TX3, 3), (RX4, TX4, 8)]
end
section
/-! THE TABLES' WORDS, one by one, by their places: gtb holds all that stay good for every callee -/
def gtb : List Cond := lw_tbl.filter goodWord
theorem gtb_hts {args : Array Value} {s : State} (h : ∀ w ∈ lw_tbl, w.before args s = true) : ∀ w ∈ gtb, w.before args s = true := fun w hw => h w (List.mem_filter.mp hw).1
theorem gt0 {w : Cond} (i : Nat) (h : (k2_sels lw_privs)[i]? = some w) (hg : goodWord w = true) : w ∈ gtb := List.mem_filter.mpr ⟨List.mem_append_left _ (List.mem_of_getElem? h), hg⟩
theorem gt1 {w : Cond} (i : Nat) (h : tables_1_1[i]? = some w) (hg : goodWord w = true) : w ∈ gtb := List.mem_filter.mpr ⟨List.mem_append_right _ (List.mem_append_left _ (List.mem_of_getElem? h)), hg⟩
theorem gt2 {w : Cond} (i : Nat) (h : tables_1_2[i]? = some w) (hg : goodWord w = true) : w ∈ gtb := List.mem_filter.mpr ⟨List.mem_append_right _ (List.mem_append_right _ (List.mem_append_left _ (List.mem_of_getElem? h))), hg⟩
theorem gt3 {w : Cond} (i : Nat) (h : tables_1_3[i]? = some w) (hg : goodWord w = true) : w ∈ gtb := List.mem_filter.mpr ⟨List.mem_append_right _ (List.mem_append_right _ (List.mem_append_right _ (List.mem_of_getElem? h))), hg⟩
/-- a method's words: its code, and the tables' -/
theorem gtb_in {w0 w1 : Cond} (h : w1 ∈ gtb) : GoodIn (w0 :: gtb) (w1 :: gtb) := by
  intro w hw
  have key : ∀ w ∈ gtb, w ∈ w0 :: gtb ∧ ((w.onTables && w.keeps) = true ∨ ∃ ty, w = .arrayClass ty) := fun w hw => ⟨List.mem_cons_of_mem _ hw, good_of_word (List.mem_filter.mp hw).2⟩
  rcases List.mem_cons.mp hw with rfl | hw
  · exact key _ h
  · exact key _ hw
theorem gtb_law {w1 : Cond} (h : w1 ∈ gtb) : GoodIn lw_tbl (w1 :: gtb) := by
  intro w hw
  have key : ∀ w ∈ gtb, w ∈ lw_tbl ∧ ((w.onTables && w.keeps) = true ∨ ∃ ty, w = .arrayClass ty) := fun w hw => ⟨(List.mem_filter.mp hw).1, good_of_word (List.mem_filter.mp hw).2⟩
  rcases List.mem_cons.mp hw with rfl | hw
  · exact key _ h
  · exact key _ hw
theorem k_0 : Cond.initialized RL ∈ gtb := gt1 0 (by decide +kernel) rfl
theorem k_1 : Cond.initialized RX3 ∈ gtb := gt1 1 (by decide +kernel) rfl
theorem k_2 : Cond.initialized RX2 ∈ gtb := gt1 2 (by decide +kernel) rfl
theorem k_3 : Cond.initialized RX1 ∈ gtb := gt1 3 (by decide +kernel) rfl
theorem k_4 : Cond.initialized RX0 ∈ gtb := gt1 4 (by decide +kernel) rfl
theorem k_5 : Cond.initialized RX4 ∈ gtb := gt1 5 (by decide +kernel) rfl
theorem k_6 : Cond.initialized "java/lang/Throwable" ∈ gtb := gt1 6 (by decide +kernel) rfl
theorem k_7 : Cond.initialized "java/lang/Exception" ∈ gtb := gt1 7 (by decide +kernel) rfl
theorem k_8 : Cond.initialized "java/lang/RuntimeException" ∈ gtb := gt1 8 (by decide +kernel) rfl
theorem k_9 : Cond.initialized "java/lang/IndexOutOfBoundsException" ∈ gtb := gt1 9 (by decide +kernel) rfl
theorem k_10 : Cond.initialized "java/lang/IllegalArgumentException" ∈ gtb := gt1 10 (by decide +kernel) rfl
theorem k_11 : Cond.initialized "java/lang/IllegalStateException" ∈ gtb := gt1 11 (by decide +kernel) rfl
theorem k_12 : Cond.initialized "java/lang/Math" ∈ gtb := gt1 12 (by decide +kernel) rfl
theorem k_13 : Cond.initialized "java/lang/System" ∈ gtb := gt1 13 (by decide +kernel) rfl
theorem k_14 : Cond.classLink RL 8 RX3 ∈ gtb := gt1 14 (by decide +kernel) rfl
theorem k_15 : Cond.instantiable RX3 3 ∈ gtb := gt1 15 (by decide +kernel) rfl
theorem k_16 : Cond.methodLink RL 63 yX3_init ∈ gtb := gt1 16 (by decide +kernel) rfl
theorem k_17 : Cond.instanceMethod yX3_init ∈ gtb := gt1 17 (by decide +kernel) rfl
theorem k_18 : Cond.code yX3_init cX3_init 1 none ∈ gtb := gt1 18 (by decide +kernel) rfl
theorem k_19 : Cond.methodLink RX3 1 objectInit ∈ gtb := gt1 19 (by decide +kernel) rfl
theorem k_20 : Cond.instanceMethod objectInit ∈ gtb := gt1 20 (by decide +kernel) rfl
theorem k_21 : Cond.code objectInit object_method_1_code 1 none ∈ gtb := gt1 21 (by decide +kernel) rfl
theorem k_22 : Cond.classLink RX3 7 RX2 ∈ gtb := gt1 22 (by decide +kernel) rfl
theorem k_23 : Cond.instantiable RX2 4 ∈ gtb := gt1 23 (by decide +kernel) rfl
theorem k_25 : Cond.instanceMethod yX2_init ∈ gtb := gt1 25 (by decide +kernel) rfl
theorem k_26 : Cond.code yX2_init cX2_init 2 none ∈ gtb := gt1 26 (by decide +kernel) rfl
theorem k_27 : Cond.methodLink RX2 3 objectInit ∈ gtb := gt1 27 (by decide +kernel) rfl
theorem k_28 : Cond.classLink RX2 9 RX1 ∈ gtb := gt1 28 (by decide +kernel) rfl
theorem k_30 : Cond.instantiable RX1 14 ∈ gtb := gt1 30 (by decide +kernel) rfl
theorem k_32 : Cond.instanceMethod yX1_init ∈ gtb := gt1 32 (by decide +kernel) rfl
theorem k_33 : Cond.code yX1_init cX1_init 1 none ∈ gtb := gt1 33 (by decide +kernel) rfl
theorem k_34 : Cond.methodLink RX1 3 objectInit ∈ gtb := gt1 34 (by decide +kernel) rfl
theorem k_35 : Cond.fieldLink RX1 25 "NailRods$Nailer" "skill" "I" ∈ gtb := gt1 35 (by decide +kernel) rfl
theorem k_36 : Cond.fieldLink RX1 28 "NailRods$Nailer" "kind" "I" ∈ gtb := gt1 36 (by decide +kernel) rfl
theorem k_38 : Cond.fieldLink RX1 31 "NailRods$Nailer" "fogger" "I" ∈ gtb := gt1 38 (by decide +kernel) rfl
theorem k_41 : Cond.fieldLink RX1 34 "NailRods$Nailer" "rods" "I" ∈ gtb := gt1 41 (by decide +kernel) rfl
theorem k_43 : Cond.fieldLink RX1 37 "NailRods$Nailer" "ounces" "I" ∈ gtb := gt1 43 (by decide +kernel) rfl
theorem k_44 : Cond.fieldLink RX1 40 "NailRods$Nailer" "heat" "I" ∈ gtb := gt1 44 (by decide +kernel) rfl
theorem k_46 : Cond.fieldLink RX1 9 "NailRods$Nailer" "coal" "I" ∈ gtb := gt1 46 (by decide +kernel) rfl
theorem k_48 : Cond.fieldLink RX1 15 "NailRods$Nailer" "coins" "I" ∈ gtb := gt1 48 (by decide +kernel) rfl
theorem k_52 : Cond.fieldLink RX1 43 "NailRods$Nailer" "owed" "I" ∈ gtb := gt1 52 (by decide +kernel) rfl
theorem k_54 : Cond.fieldLink RX1 46 "NailRods$Nailer" "scrap" "I" ∈ gtb := gt1 54 (by decide +kernel) rfl
theorem k_55 : Cond.fieldLink RX1 49 "NailRods$Nailer" "burnt" "I" ∈ gtb := gt1 55 (by decide +kernel) rfl
theorem k_56 : Cond.fieldLink RX1 52 "NailRods$Nailer" "good" "I" ∈ gtb := gt1 56 (by decide +kernel) rfl
theorem k_57 : Cond.fieldLink RX1 18 "NailRods$Nailer" "loose" "[I" ∈ gtb := gt1 57 (by decide +kernel) rfl
theorem k_59 : Cond.fieldLink RX1 22 "NailRods$Nailer" "bags" "[I" ∈ gtb := gt1 59 (by decide +kernel) rfl
theorem k_62 : Cond.lays "NailRods$Nailer" "NailRods$Nailer" "skill" "I" ∈ gtb := gt1 62 (by decide +kernel) rfl
theorem k_64 : Cond.lays "NailRods$Nailer" "NailRods$Nailer" "kind" "I" ∈ gtb := gt1 64 (by decide +kernel) rfl
theorem k_66 : Cond.lays "NailRods$Nailer" "NailRods$Nailer" "fogger" "I" ∈ gtb := gt1 66 (by decide +kernel) rfl
theorem k_68 : Cond.lays "NailRods$Nailer" "NailRods$Nailer" "rods" "I" ∈ gtb := gt1 68 (by decide +kernel) rfl
theorem k_70 : Cond.lays "NailRods$Nailer" "NailRods$Nailer" "ounces" "I" ∈ gtb := gt1 70 (by decide +kernel) rfl
theorem k_72 : Cond.lays "NailRods$Nailer" "NailRods$Nailer" "heat" "I" ∈ gtb := gt1 72 (by decide +kernel) rfl
theorem k_74 : Cond.lays "NailRods$Nailer" "NailRods$Nailer" "coal" "I" ∈ gtb := gt1 74 (by decide +kernel) rfl
theorem k_76 : Cond.lays "NailRods$Nailer" "NailRods$Nailer" "coins" "I" ∈ gtb := gt1 76 (by decide +kernel) rfl
theorem k_78 : Cond.lays "NailRods$Nailer" "NailRods$Nailer" "owed" "I" ∈ gtb := gt1 78 (by decide +kernel) rfl
theorem k_80 : Cond.lays "NailRods$Nailer" "NailRods$Nailer" "scrap" "I" ∈ gtb := gt1 80 (by decide +kernel) rfl
theorem k_82 : Cond.lays "NailRods$Nailer" "NailRods$Nailer" "burnt" "I" ∈ gtb := gt1 82 (by decide +kernel) rfl
theorem k_84 : Cond.lays "NailRods$Nailer" "NailRods$Nailer" "good" "I" ∈ gtb := gt1 84 (by decide +kernel) rfl
theorem k_86 : Cond.laysFinal "NailRods$Nailer" "NailRods$Nailer" "loose" "[I" ∈ gtb := gt1 86 (by decide +kernel) rfl
theorem k_88 : Cond.laysFinal "NailRods$Nailer" "NailRods$Nailer" "bags" "[I" ∈ gtb := gt1 88 (by decide +kernel) rfl
theorem k_91 : Cond.arrayClass FieldType.int ∈ gtb := gt1 91 (by decide +kernel) rfl
theorem k_92 : Cond.classLink RX2 18 RX0 ∈ gtb := gt1 92 (by decide +kernel) rfl
theorem k_94 : Cond.instantiable RX0 6 ∈ gtb := gt1 94 (by decide +kernel) rfl
theorem k_96 : Cond.instanceMethod yX0_init ∈ gtb := gt1 96 (by decide +kernel) rfl
theorem k_97 : Cond.code yX0_init cX0_init 1 none ∈ gtb := gt1 97 (by decide +kernel) rfl
theorem k_98 : Cond.methodLink RX0 3 objectInit ∈ gtb := gt1 98 (by decide +kernel) rfl
theorem k_99 : Cond.fieldLink RX0 9 "NailRods$Fogger" "keptBack" "I" ∈ gtb := gt1 99 (by decide +kernel) rfl
theorem k_102 : Cond.fieldLink RX0 15 "NailRods$Fogger" "coins" "I" ∈ gtb := gt1 102 (by decide +kernel) rfl
theorem k_104 : Cond.fieldLink RX0 18 "NailRods$Fogger" "bought" "I" ∈ gtb := gt1 104 (by decide +kernel) rfl
theorem k_106 : Cond.fieldLink RX0 21 "NailRods$Fogger" "paid" "I" ∈ gtb := gt1 106 (by decide +kernel) rfl
theorem k_108 : Cond.fieldLink RX0 24 "NailRods$Fogger" "earned" "I" ∈ gtb := gt1 108 (by decide +kernel) rfl
theorem k_110 : Cond.fieldLink RX0 27 "NailRods$Fogger" "loadWorth" "I" ∈ gtb := gt1 110 (by decide +kernel) rfl
theorem k_111 : Cond.lays "NailRods$Fogger" "NailRods$Fogger" "keptBack" "I" ∈ gtb := gt1 111 (by decide +kernel) rfl
theorem k_113 : Cond.lays "NailRods$Fogger" "NailRods$Fogger" "coins" "I" ∈ gtb := gt1 113 (by decide +kernel) rfl
theorem k_115 : Cond.lays "NailRods$Fogger" "NailRods$Fogger" "bought" "I" ∈ gtb := gt1 115 (by decide +kernel) rfl
theorem k_117 : Cond.lays "NailRods$Fogger" "NailRods$Fogger" "paid" "I" ∈ gtb := gt1 117 (by decide +kernel) rfl
theorem k_119 : Cond.lays "NailRods$Fogger" "NailRods$Fogger" "earned" "I" ∈ gtb := gt1 119 (by decide +kernel) rfl
theorem k_121 : Cond.lays "NailRods$Fogger" "NailRods$Fogger" "loadWorth" "I" ∈ gtb := gt1 121 (by decide +kernel) rfl
theorem k_124 : Cond.fieldLink RX2 25 "NailRods$Trade" "hour" "I" ∈ gtb := gt1 124 (by decide +kernel) rfl
theorem k_125 : Cond.fieldLink RX2 29 "NailRods$Trade" "nailerCount" "I" ∈ gtb := gt1 125 (by decide +kernel) rfl
theorem k_127 : Cond.fieldLink RX2 11 "NailRods$Trade" "nailers" "[LNailRods$Nailer;" ∈ gtb := gt1 127 (by decide +kernel) rfl
theorem k_129 : Cond.fieldLink RX2 20 "NailRods$Trade" "foggers" "[LNailRods$Fogger;" ∈ gtb := gt1 129 (by decide +kernel) rfl
theorem k_131 : Cond.lays "NailRods$Trade" "NailRods$Trade" "hour" "I" ∈ gtb := gt1 131 (by decide +kernel) rfl
theorem k_133 : Cond.lays "NailRods$Trade" "NailRods$Trade" "nailerCount" "I" ∈ gtb := gt1 133 (by decide +kernel) rfl
theorem k_135 : Cond.laysFinal "NailRods$Trade" "NailRods$Trade" "nailers" "[LNailRods$Nailer;" ∈ gtb := gt1 135 (by decide +kernel) rfl
theorem k_137 : Cond.laysFinal "NailRods$Trade" "NailRods$Trade" "foggers" "[LNailRods$Fogger;" ∈ gtb := gt1 137 (by decide +kernel) rfl
theorem k_140 : Cond.classLink RX3 19 RX1 ∈ gtb := gt1 140 (by decide +kernel) rfl
theorem k_142 : Cond.fieldLink RX3 10 "NailRods" "trade" "LNailRods$Trade;" ∈ gtb := gt1 142 (by decide +kernel) rfl
theorem k_143 : Cond.fieldLink RX3 16 "NailRods" "foreseen" "LNailRods$Trade;" ∈ gtb := gt1 143 (by decide +kernel) rfl
theorem k_144 : Cond.fieldLink RX3 22 "NailRods" "trial" "LNailRods$Nailer;" ∈ gtb := gt1 144 (by decide +kernel) rfl
theorem k_145 : Cond.laysFinal "NailRods" "NailRods" "trade" "LNailRods$Trade;" ∈ gtb := gt1 145 (by decide +kernel) rfl
theorem k_147 : Cond.laysFinal "NailRods" "NailRods" "foreseen" "LNailRods$Trade;" ∈ gtb := gt1 147 (by decide +kernel) rfl
theorem k_149 : Cond.laysFinal "NailRods" "NailRods" "trial" "LNailRods$Nailer;" ∈ gtb := gt1 149 (by decide +kernel) rfl
theorem k_152 : Cond.methodLink RL 121 yX3_richest ∈ gtb := gt1 152 (by decide +kernel) rfl
theorem k_153 : Cond.instanceMethod yX3_richest ∈ gtb := gt1 153 (by decide +kernel) rfl
theorem k_154 : Cond.selects RX3 yX3_richest yX3_richest ∈ gtb := gt1 154 (by decide +kernel) rfl
theorem k_155 : Cond.code yX3_richest cX3_richest 5 (some FieldType.int) ∈ gtb := gt1 155 (by decide +kernel) rfl
theorem k_156 : Cond.methodLink RL 125 yX3_mean ∈ gtb := gt1 156 (by decide +kernel) rfl
theorem k_157 : Cond.instanceMethod yX3_mean ∈ gtb := gt1 157 (by decide +kernel) rfl
theorem k_158 : Cond.selects RX3 yX3_mean yX3_mean ∈ gtb := gt1 158 (by decide +kernel) rfl
theorem k_159 : Cond.code yX3_mean cX3_mean 3 (some FieldType.double) ∈ gtb := gt1 159 (by decide +kernel) rfl
theorem k_160 : Cond.methodLink RL 130 yX3_digest ∈ gtb := gt1 160 (by decide +kernel) rfl
theorem k_161 : Cond.instanceMethod yX3_digest ∈ gtb := gt1 161 (by decide +kernel) rfl
theorem k_162 : Cond.selects RX3 yX3_digest yX3_digest ∈ gtb := gt1 162 (by decide +kernel) rfl
theorem k_163 : Cond.code yX3_digest cX3_digest 5 (some FieldType.long) ∈ gtb := gt1 163 (by decide +kernel) rfl
theorem k_164 : Cond.constantLong RX3 131 1259 ∈ gtb := gt1 164 (by decide +kernel) rfl
theorem k_165 : Cond.constantLong RX3 133 31 ∈ gtb := gt1 165 (by decide +kernel) rfl
theorem k_168 : Cond.instanceMethod yX2_total ∈ gtb := gt1 168 (by decide +kernel) rfl
theorem k_169 : Cond.code yX2_total cX2_total 2 (some FieldType.int) ∈ gtb := gt1 169 (by decide +kernel) rfl
theorem k_170 : Cond.methodLink RX2 61 yX2_warehouseBags ∈ gtb := gt1 170 (by decide +kernel) rfl
theorem k_172 : Cond.instanceMethod yX2_warehouseBags ∈ gtb := gt1 172 (by decide +kernel) rfl
theorem k_173 : Cond.code yX2_warehouseBags cX2_warehouseBags 3 (some FieldType.int) ∈ gtb := gt1 173 (by decide +kernel) rfl
theorem k_174 : Cond.methodLink RX2 64 yX2_sumOfShares ∈ gtb := gt1 174 (by decide +kernel) rfl
theorem k_176 : Cond.instanceMethod yX2_sumOfShares ∈ gtb := gt1 176 (by decide +kernel) rfl
theorem k_177 : Cond.code yX2_sumOfShares cX2_sumOfShares 4 (some FieldType.int) ∈ gtb := gt1 177 (by decide +kernel) rfl
theorem k_180 : Cond.instanceMethod yX1_shareOfTotal ∈ gtb := gt1 180 (by decide +kernel) rfl
theorem k_181 : Cond.code yX1_shareOfTotal cX1_shareOfTotal 2 (some FieldType.int) ∈ gtb := gt1 181 (by decide +kernel) rfl
theorem k_182 : Cond.methodLink RX1 85 yX1_sumOf ∈ gtb := gt1 182 (by decide +kernel) rfl
theorem k_183 : Cond.static yX1_sumOf ∈ gtb := gt1 183 (by decide +kernel) rfl
theorem k_184 : Cond.code yX1_sumOf cX1_sumOf 6 (some FieldType.int) ∈ gtb := gt1 184 (by decide +kernel) rfl
theorem k_187 : Cond.instanceMethod yX1_addToDigest ∈ gtb := gt1 187 (by decide +kernel) rfl
theorem k_188 : Cond.code yX1_addToDigest cX1_addToDigest 6 (some FieldType.long) ∈ gtb := gt1 188 (by decide +kernel) rfl
theorem k_189 : Cond.constantLong RX1 89 31 ∈ gtb := gt1 189 (by decide +kernel) rfl
theorem k_190 : Cond.methodLink RX1 91 yX1_number ∈ gtb := gt1 190 (by decide +kernel) rfl
theorem k_192 : Cond.instanceMethod yX1_number ∈ gtb := gt1 192 (by decide +kernel) rfl
theorem k_193 : Cond.code yX1_number cX1_number 2 (some FieldType.int) ∈ gtb := gt1 193 (by decide +kernel) rfl
theorem k_196 : Cond.instanceMethod yX2_foggerNumber ∈ gtb := gt1 196 (by decide +kernel) rfl
theorem k_197 : Cond.code yX2_foggerNumber cX2_foggerNumber 3 (some FieldType.int) ∈ gtb := gt1 197 (by decide +kernel) rfl
theorem k_198 : Cond.methodLink RX2 80 yX2_workersFor ∈ gtb := gt1 198 (by decide +kernel) rfl
theorem k_200 : Cond.instanceMethod yX2_workersFor ∈ gtb := gt1 200 (by decide +kernel) rfl
theorem k_201 : Cond.code yX2_workersFor cX2_workersFor 4 (some FieldType.int) ∈ gtb := gt1 201 (by decide +kernel) rfl
theorem k_202 : Cond.methodLink RL 67 yL_nailer ∈ gtb := gt1 202 (by decide +kernel) rfl
theorem k_203 : Cond.static yL_nailer ∈ gtb := gt1 203 (by decide +kernel) rfl
theorem k_204 : Cond.codeWith yL_nailer cL_nailer 6 (some FieldType.int) [(0, 12, 15, 13), (0, 12, 19, 15), (0, 12, 23, 17)] ∈ gtb := gt1 204 (by decide +kernel) rfl
theorem k_205 : Cond.classLink RL 13 "java/lang/IndexOutOfBoundsException" ∈ gtb := gt1 205 (by decide +kernel) rfl
theorem k_206 : Cond.classLink RL 15 "java/lang/IllegalArgumentException" ∈ gtb := gt1 206 (by decide +kernel) rfl
theorem k_207 : Cond.classLink RL 17 "java/lang/IllegalStateException" ∈ gtb := gt1 207 (by decide +kernel) rfl
theorem k_208 : Cond.methodLink RL 7 yX3_nailer ∈ gtb := gt1 208 (by decide +kernel) rfl
theorem k_209 : Cond.instanceMethod yX3_nailer ∈ gtb := gt1 209 (by decide +kernel) rfl
theorem k_210 : Cond.selects RX3 yX3_nailer yX3_nailer ∈ gtb := gt1 210 (by decide +kernel) rfl
theorem k_211 : Cond.code yX3_nailer cX3_nailer 5 (some FieldType.int) ∈ gtb := gt1 211 (by decide +kernel) rfl
theorem k_212 : Cond.methodLink RX3 26 yX3_needIndex ∈ gtb := gt1 212 (by decide +kernel) rfl
theorem k_213 : Cond.static yX3_needIndex ∈ gtb := gt1 213 (by decide +kernel) rfl
theorem k_214 : Cond.code yX3_needIndex cX3_needIndex 2 none ∈ gtb := gt1 214 (by decide +kernel) rfl
theorem k_215 : Cond.classLink RX3 117 "java/lang/IndexOutOfBoundsException" ∈ gtb := gt1 215 (by decide +kernel) rfl
theorem k_216 : Cond.instantiable "java/lang/IndexOutOfBoundsException" 6 ∈ gtb := gt1 216 (by decide +kernel) rfl
theorem k_224 : Cond.selects "java/lang/IndexOutOfBoundsException" ⟨"java/lang/Throwable", "fillInStackTrace", "(I)Ljava/lang/Throwable;"⟩ ⟨"java/lang/Throwable", "fillInStackTrace", "(I)Ljava/lang/Throwable;"⟩ ∈ gtb := gt1 224 (by decide +kernel) rfl
theorem k_225 : Cond.selects "java/lang/IndexOutOfBoundsException" ⟨"java/lang/Throwable", "fillInStackTrace", "()Ljava/lang/Throwable;"⟩ ⟨"java/lang/Throwable", "fillInStackTrace", "()Ljava/lang/Throwable;"⟩ ∈ gtb := gt1 225 (by decide +kernel) rfl
theorem k_226 : Cond.lays "java/lang/IndexOutOfBoundsException" "java/lang/Throwable" "cause" "Ljava/lang/Throwable;" ∈ gtb := gt1 226 (by decide +kernel) rfl
theorem k_227 : Cond.lays "java/lang/Throwable" "java/lang/Throwable" "cause" "Ljava/lang/Throwable;" ∈ gtb := gt1 227 (by decide +kernel) rfl
theorem k_228 : Cond.lays "java/lang/IndexOutOfBoundsException" "java/lang/Throwable" "stackTrace" "[Ljava/lang/StackTraceElement;" ∈ gtb := gt1 228 (by decide +kernel) rfl
theorem k_229 : Cond.lays "java/lang/Throwable" "java/lang/Throwable" "stackTrace" "[Ljava/lang/StackTraceElement;" ∈ gtb := gt1 229 (by decide +kernel) rfl
theorem k_230 : Cond.lays "java/lang/IndexOutOfBoundsException" "java/lang/Throwable" "suppressedExceptions" "Ljava/util/List;" ∈ gtb := gt1 230 (by decide +kernel) rfl
theorem k_231 : Cond.lays "java/lang/Throwable" "java/lang/Throwable" "suppressedExceptions" "Ljava/util/List;" ∈ gtb := gt1 231 (by decide +kernel) rfl
theorem k_232 : Cond.lays "java/lang/IndexOutOfBoundsException" "java/lang/Throwable" "detailMessage" "Ljava/lang/String;" ∈ gtb := gt1 232 (by decide +kernel) rfl
theorem k_233 : Cond.lays "java/lang/Throwable" "java/lang/Throwable" "detailMessage" "Ljava/lang/String;" ∈ gtb := gt1 233 (by decide +kernel) rfl
theorem k_234 : Cond.lays "java/lang/IndexOutOfBoundsException" "java/lang/Throwable" "backtrace" "Ljava/lang/Object;" ∈ gtb := gt1 234 (by decide +kernel) rfl
theorem k_235 : Cond.lays "java/lang/Throwable" "java/lang/Throwable" "backtrace" "Ljava/lang/Object;" ∈ gtb := gt1 235 (by decide +kernel) rfl
theorem k_236 : Cond.fieldLink "java/lang/Throwable" 198 "java/lang/Throwable" "backtrace" "Ljava/lang/Object;" ∈ gtb := gt1 236 (by decide +kernel) rfl
theorem k_238 : Cond.instanceMethod ⟨"java/lang/Throwable", "<init>", "()V"⟩ ∈ gtb := gt1 238 (by decide +kernel) rfl
theorem k_239 : Cond.code ⟨"java/lang/Throwable", "<init>", "()V"⟩ prog_15_method_1_code 1 none ∈ gtb := gt1 239 (by decide +kernel) rfl
theorem k_240 : Cond.methodLink "java/lang/Throwable" 1 objectInit ∈ gtb := gt2 0 (by decide +kernel) rfl
theorem k_241 : Cond.fieldLink "java/lang/Throwable" 13 "java/lang/Throwable" "UNASSIGNED_STACK" "[Ljava/lang/StackTraceElement;" ∈ gtb := gt2 1 (by decide +kernel) rfl
theorem k_243 : Cond.fieldLink "java/lang/Throwable" 20 "java/lang/Throwable" "SUPPRESSED_SENTINEL" "Ljava/util/List;" ∈ gtb := gt2 3 (by decide +kernel) rfl
theorem k_245 : Cond.methodLink "java/lang/Throwable" 27 ⟨"java/lang/Throwable", "fillInStackTrace", "()Ljava/lang/Throwable;"⟩ ∈ gtb := gt2 5 (by decide +kernel) rfl
theorem k_246 : Cond.instanceMethod ⟨"java/lang/Throwable", "fillInStackTrace", "()Ljava/lang/Throwable;"⟩ ∈ gtb := gt2 6 (by decide +kernel) rfl
theorem k_248 : Cond.selects "java/lang/IllegalArgumentException" ⟨"java/lang/Throwable", "fillInStackTrace", "()Ljava/lang/Throwable;"⟩ ⟨"java/lang/Throwable", "fillInStackTrace", "()Ljava/lang/Throwable;"⟩ ∈ gtb := gt2 8 (by decide +kernel) rfl
theorem k_249 : Cond.selects "java/lang/IllegalStateException" ⟨"java/lang/Throwable", "fillInStackTrace", "()Ljava/lang/Throwable;"⟩ ⟨"java/lang/Throwable", "fillInStackTrace", "()Ljava/lang/Throwable;"⟩ ∈ gtb := gt2 9 (by decide +kernel) rfl
theorem k_251 : Cond.methodLink "java/lang/Throwable" 202 ⟨"java/lang/Throwable", "fillInStackTrace", "(I)Ljava/lang/Throwable;"⟩ ∈ gtb := gt2 11 (by decide +kernel) rfl
theorem k_253 : Cond.instanceMethod ⟨"java/lang/Throwable", "fillInStackTrace", "(I)Ljava/lang/Throwable;"⟩ ∈ gtb := gt2 13 (by decide +kernel) rfl
theorem k_254 : Cond.instantiable "java/lang/Throwable" 6 ∈ gtb := gt2 14 (by decide +kernel) rfl
theorem k_255 : Cond.native ⟨"java/lang/Throwable", "fillInStackTrace", "(I)Ljava/lang/Throwable;"⟩ ∈ gtb := gt2 15 (by decide +kernel) rfl
theorem k_257 : Cond.methodLink RX3 121 ⟨"java/lang/IndexOutOfBoundsException", "<init>", "(Ljava/lang/String;)V"⟩ ∈ gtb := gt2 17 (by decide +kernel) rfl
theorem k_258 : Cond.instanceMethod ⟨"java/lang/IndexOutOfBoundsException", "<init>", "(Ljava/lang/String;)V"⟩ ∈ gtb := gt2 18 (by decide +kernel) rfl
theorem k_259 : Cond.code ⟨"java/lang/IndexOutOfBoundsException", "<init>", "(Ljava/lang/String;)V"⟩ prog_10_method_2_code 2 none ∈ gtb := gt2 19 (by decide +kernel) rfl
theorem k_260 : Cond.methodLink "java/lang/IndexOutOfBoundsException" 7 ⟨"java/lang/RuntimeException", "<init>", "(Ljava/lang/String;)V"⟩ ∈ gtb := gt2 20 (by decide +kernel) rfl
theorem k_261 : Cond.instanceMethod ⟨"java/lang/RuntimeException", "<init>", "(Ljava/lang/String;)V"⟩ ∈ gtb := gt2 21 (by decide +kernel) rfl
theorem k_262 : Cond.code ⟨"java/lang/RuntimeException", "<init>", "(Ljava/lang/String;)V"⟩ prog_12_method_2_code 2 none ∈ gtb := gt2 22 (by decide +kernel) rfl
theorem k_263 : Cond.methodLink "java/lang/RuntimeException" 7 ⟨"java/lang/Exception", "<init>", "(Ljava/lang/String;)V"⟩ ∈ gtb := gt2 23 (by decide +kernel) rfl
theorem k_264 : Cond.instanceMethod ⟨"java/lang/Exception", "<init>", "(Ljava/lang/String;)V"⟩ ∈ gtb := gt2 24 (by decide +kernel) rfl
theorem k_265 : Cond.code ⟨"java/lang/Exception", "<init>", "(Ljava/lang/String;)V"⟩ prog_7_method_2_code 2 none ∈ gtb := gt2 25 (by decide +kernel) rfl
theorem k_266 : Cond.methodLink "java/lang/Exception" 7 ⟨"java/lang/Throwable", "<init>", "(Ljava/lang/String;)V"⟩ ∈ gtb := gt2 26 (by decide +kernel) rfl
theorem k_267 : Cond.instanceMethod ⟨"java/lang/Throwable", "<init>", "(Ljava/lang/String;)V"⟩ ∈ gtb := gt2 27 (by decide +kernel) rfl
theorem k_268 : Cond.code ⟨"java/lang/Throwable", "<init>", "(Ljava/lang/String;)V"⟩ prog_15_method_2_code 2 none ∈ gtb := gt2 28 (by decide +kernel) rfl
theorem k_270 : Cond.fieldLink "java/lang/Throwable" 31 "java/lang/Throwable" "detailMessage" "Ljava/lang/String;" ∈ gtb := gt2 30 (by decide +kernel) rfl
theorem k_271 : Cond.fieldLink "java/lang/Throwable" 7 "java/lang/Throwable" "cause" "Ljava/lang/Throwable;" ∈ gtb := gt2 31 (by decide +kernel) rfl
theorem k_272 : Cond.fieldLink "java/lang/Throwable" 17 "java/lang/Throwable" "stackTrace" "[Ljava/lang/StackTraceElement;" ∈ gtb := gt2 32 (by decide +kernel) rfl
theorem k_273 : Cond.fieldLink "java/lang/Throwable" 24 "java/lang/Throwable" "suppressedExceptions" "Ljava/util/List;" ∈ gtb := gt2 33 (by decide +kernel) rfl
theorem k_278 : Cond.lays "java/lang/IndexOutOfBoundsException" "java/lang/Throwable" "depth" "I" ∈ gtb := gt2 38 (by decide +kernel) rfl
theorem k_282 : Cond.arrayClass FieldType.byte ∈ gtb := gt2 42 (by decide +kernel) rfl
theorem k_283 : Cond.methodLink RX3 30 yX3_needWithin ∈ gtb := gt2 43 (by decide +kernel) rfl
theorem k_284 : Cond.static yX3_needWithin ∈ gtb := gt2 44 (by decide +kernel) rfl
theorem k_285 : Cond.code yX3_needWithin cX3_needWithin 3 none ∈ gtb := gt2 45 (by decide +kernel) rfl
theorem k_286 : Cond.classLink RX3 141 "java/lang/IllegalArgumentException" ∈ gtb := gt2 46 (by decide +kernel) rfl
theorem k_287 : Cond.instantiable "java/lang/IllegalArgumentException" 6 ∈ gtb := gt2 47 (by decide +kernel) rfl
theorem k_289 : Cond.selects "java/lang/IllegalArgumentException" ⟨"java/lang/Throwable", "fillInStackTrace", "(I)Ljava/lang/Throwable;"⟩ ⟨"java/lang/Throwable", "fillInStackTrace", "(I)Ljava/lang/Throwable;"⟩ ∈ gtb := gt2 49 (by decide +kernel) rfl
theorem k_290 : Cond.lays "java/lang/IllegalArgumentException" "java/lang/Throwable" "cause" "Ljava/lang/Throwable;" ∈ gtb := gt2 50 (by decide +kernel) rfl
theorem k_291 : Cond.lays "java/lang/IllegalArgumentException" "java/lang/Throwable" "stackTrace" "[Ljava/lang/StackTraceElement;" ∈ gtb := gt2 51 (by decide +kernel) rfl
theorem k_292 : Cond.lays "java/lang/IllegalArgumentException" "java/lang/Throwable" "suppressedExceptions" "Ljava/util/List;" ∈ gtb := gt2 52 (by decide +kernel) rfl
theorem k_293 : Cond.lays "java/lang/IllegalArgumentException" "java/lang/Throwable" "detailMessage" "Ljava/lang/String;" ∈ gtb := gt2 53 (by decide +kernel) rfl
theorem k_294 : Cond.lays "java/lang/IllegalArgumentException" "java/lang/Throwable" "backtrace" "Ljava/lang/Object;" ∈ gtb := gt2 54 (by decide +kernel) rfl
theorem k_296 : Cond.methodLink RX3 145 ⟨"java/lang/IllegalArgumentException", "<init>", "(Ljava/lang/String;)V"⟩ ∈ gtb := gt2 56 (by decide +kernel) rfl
theorem k_297 : Cond.instanceMethod ⟨"java/lang/IllegalArgumentException", "<init>", "(Ljava/lang/String;)V"⟩ ∈ gtb := gt2 57 (by decide +kernel) rfl
theorem k_298 : Cond.code ⟨"java/lang/IllegalArgumentException", "<init>", "(Ljava/lang/String;)V"⟩ prog_8_method_2_code 2 none ∈ gtb := gt2 58 (by decide +kernel) rfl
theorem k_299 : Cond.methodLink "java/lang/IllegalArgumentException" 7 ⟨"java/lang/RuntimeException", "<init>", "(Ljava/lang/String;)V"⟩ ∈ gtb := gt2 59 (by decide +kernel) rfl
theorem k_300 : Cond.lays "java/lang/IllegalArgumentException" "java/lang/Throwable" "depth" "I" ∈ gtb := gt2 60 (by decide +kernel) rfl
theorem k_302 : Cond.classLink RX3 38 "java/lang/IllegalStateException" ∈ gtb := gt2 62 (by decide +kernel) rfl
theorem k_303 : Cond.instantiable "java/lang/IllegalStateException" 6 ∈ gtb := gt2 63 (by decide +kernel) rfl
theorem k_305 : Cond.selects "java/lang/IllegalStateException" ⟨"java/lang/Throwable", "fillInStackTrace", "(I)Ljava/lang/Throwable;"⟩ ⟨"java/lang/Throwable", "fillInStackTrace", "(I)Ljava/lang/Throwable;"⟩ ∈ gtb := gt2 65 (by decide +kernel) rfl
theorem k_306 : Cond.lays "java/lang/IllegalStateException" "java/lang/Throwable" "cause" "Ljava/lang/Throwable;" ∈ gtb := gt2 66 (by decide +kernel) rfl
theorem k_307 : Cond.lays "java/lang/IllegalStateException" "java/lang/Throwable" "stackTrace" "[Ljava/lang/StackTraceElement;" ∈ gtb := gt2 67 (by decide +kernel) rfl
theorem k_308 : Cond.lays "java/lang/IllegalStateException" "java/lang/Throwable" "suppressedExceptions" "Ljava/util/List;" ∈ gtb := gt2 68 (by decide +kernel) rfl
theorem k_309 : Cond.lays "java/lang/IllegalStateException" "java/lang/Throwable" "detailMessage" "Ljava/lang/String;" ∈ gtb := gt2 69 (by decide +kernel) rfl
theorem k_310 : Cond.lays "java/lang/IllegalStateException" "java/lang/Throwable" "backtrace" "Ljava/lang/Object;" ∈ gtb := gt2 70 (by decide +kernel) rfl
theorem k_312 : Cond.methodLink RX3 42 ⟨"java/lang/IllegalStateException", "<init>", "(Ljava/lang/String;)V"⟩ ∈ gtb := gt2 72 (by decide +kernel) rfl
theorem k_313 : Cond.instanceMethod ⟨"java/lang/IllegalStateException", "<init>", "(Ljava/lang/String;)V"⟩ ∈ gtb := gt2 73 (by decide +kernel) rfl
theorem k_314 : Cond.code ⟨"java/lang/IllegalStateException", "<init>", "(Ljava/lang/String;)V"⟩ prog_9_method_2_code 2 none ∈ gtb := gt2 74 (by decide +kernel) rfl
theorem k_315 : Cond.methodLink "java/lang/IllegalStateException" 7 ⟨"java/lang/RuntimeException", "<init>", "(Ljava/lang/String;)V"⟩ ∈ gtb := gt2 75 (by decide +kernel) rfl
theorem k_316 : Cond.lays "java/lang/IllegalStateException" "java/lang/Throwable" "depth" "I" ∈ gtb := gt2 76 (by decide +kernel) rfl
theorem k_320 : Cond.instanceMethod yX1_begin ∈ gtb := gt2 80 (by decide +kernel) rfl
theorem k_321 : Cond.code yX1_begin cX1_begin 4 none ∈ gtb := gt2 81 (by decide +kernel) rfl
theorem k_322 : Cond.methodLink RL 77 yL_lend ∈ gtb := gt2 82 (by decide +kernel) rfl
theorem k_323 : Cond.static yL_lend ∈ gtb := gt2 83 (by decide +kernel) rfl
theorem k_324 : Cond.codeWith yL_lend cL_lend 5 (some FieldType.int) [(0, 10, 13, 13), (0, 10, 17, 15), (0, 10, 21, 17)] ∈ gtb := gt2 84 (by decide +kernel) rfl
theorem k_325 : Cond.methodLink RL 19 yX3_lend ∈ gtb := gt2 85 (by decide +kernel) rfl
theorem k_326 : Cond.instanceMethod yX3_lend ∈ gtb := gt2 86 (by decide +kernel) rfl
theorem k_327 : Cond.selects RX3 yX3_lend yX3_lend ∈ gtb := gt2 87 (by decide +kernel) rfl
theorem k_328 : Cond.code yX3_lend cX3_lend 5 (some FieldType.int) ∈ gtb := gt2 88 (by decide +kernel) rfl
theorem k_329 : Cond.methodLink RX3 52 yX3_needNailer ∈ gtb := gt2 89 (by decide +kernel) rfl
theorem k_331 : Cond.instanceMethod yX3_needNailer ∈ gtb := gt2 91 (by decide +kernel) rfl
theorem k_332 : Cond.code yX3_needNailer cX3_needNailer 2 none ∈ gtb := gt2 92 (by decide +kernel) rfl
theorem k_334 : Cond.methodLink RL 81 yL_coal ∈ gtb := gt2 94 (by decide +kernel) rfl
theorem k_335 : Cond.static yL_coal ∈ gtb := gt2 95 (by decide +kernel) rfl
theorem k_336 : Cond.codeWith yL_coal cL_coal 5 (some FieldType.int) [(0, 10, 13, 13), (0, 10, 17, 15), (0, 10, 21, 17)] ∈ gtb := gt2 96 (by decide +kernel) rfl
theorem k_337 : Cond.methodLink RL 23 yX3_coal ∈ gtb := gt2 97 (by decide +kernel) rfl
theorem k_338 : Cond.instanceMethod yX3_coal ∈ gtb := gt2 98 (by decide +kernel) rfl
theorem k_339 : Cond.selects RX3 yX3_coal yX3_coal ∈ gtb := gt2 99 (by decide +kernel) rfl
theorem k_340 : Cond.code yX3_coal cX3_coal 5 (some FieldType.int) ∈ gtb := gt2 100 (by decide +kernel) rfl
theorem k_342 : Cond.methodLink RL 84 yL_make ∈ gtb := gt2 102 (by decide +kernel) rfl
theorem k_343 : Cond.static yL_make ∈ gtb := gt2 103 (by decide +kernel) rfl
theorem k_344 : Cond.codeWith yL_make cL_make 5 (some FieldType.int) [(0, 10, 13, 13)] ∈ gtb := gt2 104 (by decide +kernel) rfl
theorem k_345 : Cond.methodLink RL 26 yX3_make ∈ gtb := gt2 105 (by decide +kernel) rfl
theorem k_346 : Cond.instanceMethod yX3_make ∈ gtb := gt2 106 (by decide +kernel) rfl
theorem k_347 : Cond.selects RX3 yX3_make yX3_make ∈ gtb := gt2 107 (by decide +kernel) rfl
theorem k_348 : Cond.code yX3_make cX3_make 4 (some FieldType.int) ∈ gtb := gt2 108 (by decide +kernel) rfl
theorem k_349 : Cond.methodLink RL 87 yL_change ∈ gtb := gt2 109 (by decide +kernel) rfl
theorem k_350 : Cond.static yL_change ∈ gtb := gt2 110 (by decide +kernel) rfl
theorem k_351 : Cond.codeWith yL_change cL_change 5 (some FieldType.int) [(0, 10, 13, 13), (0, 10, 17, 17)] ∈ gtb := gt2 111 (by decide +kernel) rfl
theorem k_352 : Cond.methodLink RL 29 yX3_change ∈ gtb := gt2 112 (by decide +kernel) rfl
theorem k_353 : Cond.instanceMethod yX3_change ∈ gtb := gt2 113 (by decide +kernel) rfl
theorem k_354 : Cond.selects RX3 yX3_change yX3_change ∈ gtb := gt2 114 (by decide +kernel) rfl
theorem k_355 : Cond.code yX3_change cX3_change 5 (some FieldType.int) ∈ gtb := gt2 115 (by decide +kernel) rfl
theorem k_357 : Cond.methodLink RL 90 yL_told ∈ gtb := gt2 117 (by decide +kernel) rfl
theorem k_358 : Cond.static yL_told ∈ gtb := gt2 118 (by decide +kernel) rfl
theorem k_359 : Cond.codeWith yL_told cL_told 5 (some FieldType.int) [(0, 10, 13, 13)] ∈ gtb := gt2 119 (by decide +kernel) rfl
theorem k_360 : Cond.methodLink RL 32 yX3_told ∈ gtb := gt2 120 (by decide +kernel) rfl
theorem k_361 : Cond.instanceMethod yX3_told ∈ gtb := gt2 121 (by decide +kernel) rfl
theorem k_362 : Cond.selects RX3 yX3_told yX3_told ∈ gtb := gt2 122 (by decide +kernel) rfl
theorem k_363 : Cond.code yX3_told cX3_told 3 (some FieldType.int) ∈ gtb := gt2 123 (by decide +kernel) rfl
theorem k_365 : Cond.methodLink RL 93 yL_nails ∈ gtb := gt2 125 (by decide +kernel) rfl
theorem k_366 : Cond.static yL_nails ∈ gtb := gt2 126 (by decide +kernel) rfl
theorem k_367 : Cond.codeWith yL_nails cL_nails 6 (some FieldType.int) [(0, 12, 15, 13)] ∈ gtb := gt2 127 (by decide +kernel) rfl
theorem k_368 : Cond.methodLink RL 35 yX3_nails ∈ gtb := gt2 128 (by decide +kernel) rfl
theorem k_369 : Cond.instanceMethod yX3_nails ∈ gtb := gt2 129 (by decide +kernel) rfl
theorem k_370 : Cond.selects RX3 yX3_nails yX3_nails ∈ gtb := gt2 130 (by decide +kernel) rfl
theorem k_371 : Cond.code yX3_nails cX3_nails 5 (some FieldType.int) ∈ gtb := gt2 131 (by decide +kernel) rfl
theorem k_372 : Cond.methodLink RL 96 yL_keep ∈ gtb := gt2 132 (by decide +kernel) rfl
theorem k_373 : Cond.static yL_keep ∈ gtb := gt2 133 (by decide +kernel) rfl
theorem k_374 : Cond.codeWith yL_keep cL_keep 5 (some FieldType.int) [(0, 10, 13, 13), (0, 10, 17, 15)] ∈ gtb := gt2 134 (by decide +kernel) rfl
theorem k_375 : Cond.methodLink RL 38 yX3_keep ∈ gtb := gt2 135 (by decide +kernel) rfl
theorem k_376 : Cond.instanceMethod yX3_keep ∈ gtb := gt2 136 (by decide +kernel) rfl
theorem k_377 : Cond.selects RX3 yX3_keep yX3_keep ∈ gtb := gt2 137 (by decide +kernel) rfl
theorem k_378 : Cond.code yX3_keep cX3_keep 4 (some FieldType.int) ∈ gtb := gt2 138 (by decide +kernel) rfl
theorem k_379 : Cond.methodLink RL 99 yL_fogger ∈ gtb := gt2 139 (by decide +kernel) rfl
theorem k_380 : Cond.static yL_fogger ∈ gtb := gt2 140 (by decide +kernel) rfl
theorem k_381 : Cond.codeWith yL_fogger cL_fogger 5 (some FieldType.int) [(0, 10, 13, 13)] ∈ gtb := gt2 141 (by decide +kernel) rfl
theorem k_382 : Cond.methodLink RL 41 yX3_fogger ∈ gtb := gt2 142 (by decide +kernel) rfl
theorem k_383 : Cond.instanceMethod yX3_fogger ∈ gtb := gt2 143 (by decide +kernel) rfl
theorem k_384 : Cond.selects RX3 yX3_fogger yX3_fogger ∈ gtb := gt2 144 (by decide +kernel) rfl
theorem k_385 : Cond.code yX3_fogger cX3_fogger 3 (some FieldType.int) ∈ gtb := gt2 145 (by decide +kernel) rfl
theorem k_386 : Cond.methodLink RL 102 yL_count ∈ gtb := gt2 146 (by decide +kernel) rfl
theorem k_387 : Cond.static yL_count ∈ gtb := gt2 147 (by decide +kernel) rfl
theorem k_388 : Cond.codeWith yL_count cL_count 4 (some FieldType.int) [(0, 9, 12, 13)] ∈ gtb := gt2 148 (by decide +kernel) rfl
theorem k_389 : Cond.methodLink RL 44 yX3_count ∈ gtb := gt2 149 (by decide +kernel) rfl
theorem k_390 : Cond.instanceMethod yX3_count ∈ gtb := gt2 150 (by decide +kernel) rfl
theorem k_391 : Cond.selects RX3 yX3_count yX3_count ∈ gtb := gt2 151 (by decide +kernel) rfl
theorem k_392 : Cond.code yX3_count cX3_count 2 (some FieldType.int) ∈ gtb := gt2 152 (by decide +kernel) rfl
theorem k_393 : Cond.methodLink RL 106 yL_pass ∈ gtb := gt2 153 (by decide +kernel) rfl
theorem k_394 : Cond.static yL_pass ∈ gtb := gt2 154 (by decide +kernel) rfl
theorem k_395 : Cond.codeWith yL_pass cL_pass 4 (some FieldType.int) [(0, 9, 12, 15)] ∈ gtb := gt2 155 (by decide +kernel) rfl
theorem k_396 : Cond.methodLink RL 48 yX3_pass ∈ gtb := gt2 156 (by decide +kernel) rfl
theorem k_397 : Cond.instanceMethod yX3_pass ∈ gtb := gt2 157 (by decide +kernel) rfl
theorem k_398 : Cond.selects RX3 yX3_pass yX3_pass ∈ gtb := gt2 158 (by decide +kernel) rfl
theorem k_399 : Cond.code yX3_pass cX3_pass 2 (some FieldType.int) ∈ gtb := gt2 159 (by decide +kernel) rfl
theorem k_402 : Cond.instanceMethod yX2_goBy ∈ gtb := gt2 162 (by decide +kernel) rfl
theorem k_403 : Cond.code yX2_goBy cX2_goBy 4 (some FieldType.int) ∈ gtb := gt2 163 (by decide +kernel) rfl
theorem k_404 : Cond.methodLink RX2 39 yX2_goByOne ∈ gtb := gt2 164 (by decide +kernel) rfl
theorem k_406 : Cond.instanceMethod yX2_goByOne ∈ gtb := gt2 166 (by decide +kernel) rfl
theorem k_407 : Cond.code yX2_goByOne cX2_goByOne 3 (some FieldType.int) ∈ gtb := gt2 167 (by decide +kernel) rfl
theorem k_410 : Cond.instanceMethod yX1_workHour ∈ gtb := gt2 170 (by decide +kernel) rfl
theorem k_411 : Cond.code yX1_workHour cX1_workHour 3 (some FieldType.int) ∈ gtb := gt2 171 (by decide +kernel) rfl
theorem k_412 : Cond.methodLink RX1 59 yX1_tendFire ∈ gtb := gt2 172 (by decide +kernel) rfl
theorem k_414 : Cond.instanceMethod yX1_tendFire ∈ gtb := gt2 174 (by decide +kernel) rfl
theorem k_415 : Cond.code yX1_tendFire cX1_tendFire 1 none ∈ gtb := gt2 175 (by decide +kernel) rfl
theorem k_416 : Cond.methodLink RX1 70 Lib.Math.min.name ∈ gtb := gt2 176 (by decide +kernel) rfl
theorem k_417 : Cond.static Lib.Math.min.name ∈ gtb := gt2 177 (by decide +kernel) rfl
theorem k_418 : Cond.code Lib.Math.min.name cJ9_min_7cf53 2 (some FieldType.int) ∈ gtb := gt2 178 (by decide +kernel) rfl
theorem k_419 : Cond.methodLink RX1 76 Lib.Math.max.name ∈ gtb := gt2 179 (by decide +kernel) rfl
theorem k_420 : Cond.static Lib.Math.max.name ∈ gtb := gt2 180 (by decide +kernel) rfl
theorem k_421 : Cond.code Lib.Math.max.name cJ9_max_7cf53 2 (some FieldType.int) ∈ gtb := gt2 181 (by decide +kernel) rfl
theorem k_422 : Cond.methodLink RX1 62 yX1_head ∈ gtb := gt2 182 (by decide +kernel) rfl
theorem k_424 : Cond.instanceMethod yX1_head ∈ gtb := gt2 184 (by decide +kernel) rfl
theorem k_425 : Cond.code yX1_head cX1_head 3 (some FieldType.int) ∈ gtb := gt2 185 (by decide +kernel) rfl
theorem k_426 : Cond.methodLink RX1 79 yX1_headFromHand ∈ gtb := gt2 186 (by decide +kernel) rfl
theorem k_428 : Cond.instanceMethod yX1_headFromHand ∈ gtb := gt2 188 (by decide +kernel) rfl
theorem k_429 : Cond.code yX1_headFromHand cX1_headFromHand 3 (some FieldType.int) ∈ gtb := gt2 189 (by decide +kernel) rfl
theorem k_432 : Cond.methodLink RX1 66 yX1_store ∈ gtb := gt2 192 (by decide +kernel) rfl
theorem k_434 : Cond.instanceMethod yX1_store ∈ gtb := gt2 194 (by decide +kernel) rfl
theorem k_435 : Cond.code yX1_store cX1_store 2 none ∈ gtb := gt2 195 (by decide +kernel) rfl
theorem k_436 : Cond.methodLink RX2 46 yX2_reckonWeek ∈ gtb := gt2 196 (by decide +kernel) rfl
theorem k_438 : Cond.instanceMethod yX2_reckonWeek ∈ gtb := gt2 198 (by decide +kernel) rfl
theorem k_439 : Cond.code yX2_reckonWeek cX2_reckonWeek 3 none ∈ gtb := gt2 199 (by decide +kernel) rfl
theorem k_442 : Cond.instanceMethod yX0_buyBags ∈ gtb := gt2 202 (by decide +kernel) rfl
theorem k_443 : Cond.code yX0_buyBags cX0_buyBags 4 none ∈ gtb := gt2 203 (by decide +kernel) rfl
theorem k_448 : Cond.instanceMethod yX0_collectDebt ∈ gtb := gt2 208 (by decide +kernel) rfl
theorem k_449 : Cond.code yX0_collectDebt cX0_collectDebt 3 none ∈ gtb := gt2 209 (by decide +kernel) rfl
theorem k_450 : Cond.methodLink RX0 43 Lib.Math.min.name ∈ gtb := gt2 210 (by decide +kernel) rfl
theorem k_453 : Cond.instanceMethod yX0_deliver ∈ gtb := gt2 213 (by decide +kernel) rfl
theorem k_454 : Cond.code yX0_deliver cX0_deliver 1 none ∈ gtb := gt2 214 (by decide +kernel) rfl
theorem k_455 : Cond.methodLink RL 109 yL_rate ∈ gtb := gt2 215 (by decide +kernel) rfl
theorem k_456 : Cond.static yL_rate ∈ gtb := gt2 216 (by decide +kernel) rfl
theorem k_457 : Cond.codeWith yL_rate cL_rate 4 (some FieldType.int) [(0, 9, 12, 13)] ∈ gtb := gt2 217 (by decide +kernel) rfl
theorem k_458 : Cond.methodLink RL 51 yX3_rate ∈ gtb := gt2 218 (by decide +kernel) rfl
theorem k_459 : Cond.instanceMethod yX3_rate ∈ gtb := gt2 219 (by decide +kernel) rfl
theorem k_460 : Cond.selects RX3 yX3_rate yX3_rate ∈ gtb := gt2 220 (by decide +kernel) rfl
theorem k_461 : Cond.code yX3_rate cX3_rate 2 (some FieldType.int) ∈ gtb := gt2 221 (by decide +kernel) rfl
theorem k_464 : Cond.instanceMethod yX1_copyFrom ∈ gtb := gt2 224 (by decide +kernel) rfl
theorem k_465 : Cond.code yX1_copyFrom cX1_copyFrom 3 none ∈ gtb := gt2 225 (by decide +kernel) rfl
theorem k_468 : Cond.instanceMethod yX1_workHours ∈ gtb := gt2 228 (by decide +kernel) rfl
theorem k_469 : Cond.code yX1_workHours cX1_workHours 4 (some FieldType.int) ∈ gtb := gt2 229 (by decide +kernel) rfl
theorem k_470 : Cond.methodLink RX1 55 yX1_workHour ∈ gtb := gt2 230 (by decide +kernel) rfl
theorem k_471 : Cond.methodLink RL 112 yL_when ∈ gtb := gt2 231 (by decide +kernel) rfl
theorem k_472 : Cond.static yL_when ∈ gtb := gt2 232 (by decide +kernel) rfl
theorem k_473 : Cond.codeWith yL_when cL_when 5 (some FieldType.int) [(0, 10, 13, 13), (0, 10, 17, 15)] ∈ gtb := gt2 233 (by decide +kernel) rfl
theorem k_474 : Cond.methodLink RL 54 yX3_when ∈ gtb := gt2 234 (by decide +kernel) rfl
theorem k_475 : Cond.instanceMethod yX3_when ∈ gtb := gt2 235 (by decide +kernel) rfl
theorem k_476 : Cond.selects RX3 yX3_when yX3_when ∈ gtb := gt2 236 (by decide +kernel) rfl
theorem k_477 : Cond.code yX3_when cX3_when 5 (some FieldType.int) ∈ gtb := gt2 237 (by decide +kernel) rfl
theorem k_478 : Cond.methodLink RL 115 yL_foresee ∈ gtb := gt2 238 (by decide +kernel) rfl
theorem k_479 : Cond.static yL_foresee ∈ gtb := gt2 239 (by decide +kernel) rfl
theorem k_480 : Cond.codeWith yL_foresee cL_foresee 5 (some FieldType.int) [(0, 10, 13, 15), (0, 10, 17, 13)] ∈ gtb := gt3 0 (by decide +kernel) rfl
theorem k_481 : Cond.methodLink RL 57 yX3_foresee ∈ gtb := gt3 1 (by decide +kernel) rfl
theorem k_482 : Cond.instanceMethod yX3_foresee ∈ gtb := gt3 2 (by decide +kernel) rfl
theorem k_483 : Cond.selects RX3 yX3_foresee yX3_foresee ∈ gtb := gt3 3 (by decide +kernel) rfl
theorem k_484 : Cond.code yX3_foresee cX3_foresee 3 (some FieldType.int) ∈ gtb := gt3 4 (by decide +kernel) rfl
theorem k_488 : Cond.instanceMethod yX2_copyFrom ∈ gtb := gt3 8 (by decide +kernel) rfl
theorem k_489 : Cond.code yX2_copyFrom cX2_copyFrom 3 none ∈ gtb := gt3 9 (by decide +kernel) rfl
theorem k_493 : Cond.instanceMethod yX0_copyFrom ∈ gtb := gt3 13 (by decide +kernel) rfl
theorem k_494 : Cond.code yX0_copyFrom cX0_copyFrom 2 none ∈ gtb := gt3 14 (by decide +kernel) rfl
theorem k_495 : Cond.methodLink RL 118 yL_advise ∈ gtb := gt3 15 (by decide +kernel) rfl
theorem k_496 : Cond.static yL_advise ∈ gtb := gt3 16 (by decide +kernel) rfl
theorem k_497 : Cond.codeWith yL_advise cL_advise 5 (some FieldType.int) [(0, 10, 13, 13), (0, 10, 17, 15)] ∈ gtb := gt3 17 (by decide +kernel) rfl
theorem k_498 : Cond.methodLink RL 60 yX3_advise ∈ gtb := gt3 18 (by decide +kernel) rfl
theorem k_499 : Cond.instanceMethod yX3_advise ∈ gtb := gt3 19 (by decide +kernel) rfl
theorem k_500 : Cond.selects RX3 yX3_advise yX3_advise ∈ gtb := gt3 20 (by decide +kernel) rfl
theorem k_501 : Cond.code yX3_advise cX3_advise 7 (some FieldType.int) ∈ gtb := gt3 21 (by decide +kernel) rfl
theorem k_502 : Cond.fieldLink RX3 125 "NailRods" "WORTH" "[I" ∈ gtb := gt3 22 (by decide +kernel) rfl
theorem k_503 : Cond.methodLink RL 73 yX4_thrown ∈ gtb := gt3 23 (by decide +kernel) rfl
theorem k_504 : Cond.instanceMethod yX4_thrown ∈ gtb := gt3 24 (by decide +kernel) rfl
theorem k_505 : Cond.selects RX4 yX4_thrown yX4_thrown ∈ gtb := gt3 25 (by decide +kernel) rfl
theorem k_506 : Cond.code yX4_thrown cX4_thrown 1 (some FieldType.int) ∈ gtb := gt3 26 (by decide +kernel) rfl
theorem k_507 : Cond.classLink RL 64 RX4 ∈ gtb := gt3 27 (by decide +kernel) rfl
theorem k_508 : Cond.instantiable RX4 8 ∈ gtb := gt3 28 (by decide +kernel) rfl
theorem k_509 : Cond.methodLink RL 66 yX4_init ∈ gtb := gt3 29 (by decide +kernel) rfl
theorem k_510 : Cond.instanceMethod yX4_init ∈ gtb := gt3 30 (by decide +kernel) rfl
theorem k_511 : Cond.code yX4_init cX4_init 2 none ∈ gtb := gt3 31 (by decide +kernel) rfl
theorem k_512 : Cond.methodLink RX4 7 objectInit ∈ gtb := gt3 32 (by decide +kernel) rfl
theorem k_513 : Cond.fieldLink RX4 1 "NailRodsModel" "thrown" "I" ∈ gtb := gt3 33 (by decide +kernel) rfl
theorem k_514 : Cond.fieldLink RX4 72 "NailRodsModel" "hour" "I" ∈ gtb := gt3 34 (by decide +kernel) rfl
theorem k_515 : Cond.fieldLink RX4 29 "NailRodsModel" "many" "I" ∈ gtb := gt3 35 (by decide +kernel) rfl
theorem k_516 : Cond.fieldLink RX4 13 "NailRodsModel" "n" "[I" ∈ gtb := gt3 36 (by decide +kernel) rfl
theorem k_517 : Cond.fieldLink RX4 17 "NailRodsModel" "f" "[I" ∈ gtb := gt3 37 (by decide +kernel) rfl
theorem k_518 : Cond.fieldLink RX4 20 "NailRodsModel" "nAhead" "[I" ∈ gtb := gt3 38 (by decide +kernel) rfl
theorem k_519 : Cond.fieldLink RX4 23 "NailRodsModel" "fAhead" "[I" ∈ gtb := gt3 39 (by decide +kernel) rfl
theorem k_520 : Cond.fieldLink RX4 26 "NailRodsModel" "worths" "[I" ∈ gtb := gt3 40 (by decide +kernel) rfl
theorem k_521 : Cond.lays "NailRodsModel" "NailRodsModel" "thrown" "I" ∈ gtb := gt3 41 (by decide +kernel) rfl
theorem k_523 : Cond.lays "NailRodsModel" "NailRodsModel" "hour" "I" ∈ gtb := gt3 43 (by decide +kernel) rfl
theorem k_525 : Cond.lays "NailRodsModel" "NailRodsModel" "many" "I" ∈ gtb := gt3 45 (by decide +kernel) rfl
theorem k_527 : Cond.lays "NailRodsModel" "NailRodsModel" "n" "[I" ∈ gtb := gt3 47 (by decide +kernel) rfl
theorem k_529 : Cond.lays "NailRodsModel" "NailRodsModel" "f" "[I" ∈ gtb := gt3 49 (by decide +kernel) rfl
theorem k_531 : Cond.lays "NailRodsModel" "NailRodsModel" "nAhead" "[I" ∈ gtb := gt3 51 (by decide +kernel) rfl
theorem k_533 : Cond.lays "NailRodsModel" "NailRodsModel" "fAhead" "[I" ∈ gtb := gt3 53 (by decide +kernel) rfl
theorem k_535 : Cond.laysFinal "NailRodsModel" "NailRodsModel" "worths" "[I" ∈ gtb := gt3 55 (by decide +kernel) rfl
theorem k_538 : Cond.methodLink RL 72 yX4_nailer ∈ gtb := gt3 58 (by decide +kernel) rfl
theorem k_539 : Cond.instanceMethod yX4_nailer ∈ gtb := gt3 59 (by decide +kernel) rfl
theorem k_540 : Cond.selects RX4 yX4_nailer yX4_nailer ∈ gtb := gt3 60 (by decide +kernel) rfl
theorem k_541 : Cond.code yX4_nailer cX4_nailer 5 (some FieldType.int) ∈ gtb := gt3 61 (by decide +kernel) rfl
theorem k_542 : Cond.methodLink RX4 79 yX4_isFour ∈ gtb := gt3 62 (by decide +kernel) rfl
theorem k_543 : Cond.static yX4_isFour ∈ gtb := gt3 63 (by decide +kernel) rfl
theorem k_544 : Cond.code yX4_isFour cX4_isFour 1 (some FieldType.boolean) ∈ gtb := gt3 64 (by decide +kernel) rfl
theorem k_545 : Cond.methodLink RX4 32 yX4_isIn ∈ gtb := gt3 65 (by decide +kernel) rfl
theorem k_546 : Cond.static yX4_isIn ∈ gtb := gt3 66 (by decide +kernel) rfl
theorem k_547 : Cond.code yX4_isIn cX4_isIn 3 (some FieldType.boolean) ∈ gtb := gt3 67 (by decide +kernel) rfl
theorem k_548 : Cond.methodLink RX4 83 yX4_no ∈ gtb := gt3 68 (by decide +kernel) rfl
theorem k_550 : Cond.instanceMethod yX4_no ∈ gtb := gt3 70 (by decide +kernel) rfl
theorem k_551 : Cond.code yX4_no cX4_no 2 (some FieldType.int) ∈ gtb := gt3 71 (by decide +kernel) rfl
theorem k_552 : Cond.methodLink RL 80 yX4_lend ∈ gtb := gt3 72 (by decide +kernel) rfl
theorem k_553 : Cond.instanceMethod yX4_lend ∈ gtb := gt3 73 (by decide +kernel) rfl
theorem k_554 : Cond.selects RX4 yX4_lend yX4_lend ∈ gtb := gt3 74 (by decide +kernel) rfl
theorem k_555 : Cond.code yX4_lend cX4_lend 4 (some FieldType.int) ∈ gtb := gt3 75 (by decide +kernel) rfl
theorem k_556 : Cond.methodLink RX4 87 yX4_isThere ∈ gtb := gt3 76 (by decide +kernel) rfl
theorem k_558 : Cond.instanceMethod yX4_isThere ∈ gtb := gt3 78 (by decide +kernel) rfl
theorem k_559 : Cond.code yX4_isThere cX4_isThere 2 (some FieldType.boolean) ∈ gtb := gt3 79 (by decide +kernel) rfl
theorem k_560 : Cond.methodLink RL 83 yX4_coal ∈ gtb := gt3 80 (by decide +kernel) rfl
theorem k_561 : Cond.instanceMethod yX4_coal ∈ gtb := gt3 81 (by decide +kernel) rfl
theorem k_562 : Cond.selects RX4 yX4_coal yX4_coal ∈ gtb := gt3 82 (by decide +kernel) rfl
theorem k_563 : Cond.code yX4_coal cX4_coal 5 (some FieldType.int) ∈ gtb := gt3 83 (by decide +kernel) rfl
theorem k_564 : Cond.methodLink RL 86 yX4_make ∈ gtb := gt3 84 (by decide +kernel) rfl
theorem k_565 : Cond.instanceMethod yX4_make ∈ gtb := gt3 85 (by decide +kernel) rfl
theorem k_566 : Cond.selects RX4 yX4_make yX4_make ∈ gtb := gt3 86 (by decide +kernel) rfl
theorem k_567 : Cond.code yX4_make cX4_make 3 (some FieldType.int) ∈ gtb := gt3 87 (by decide +kernel) rfl
theorem k_568 : Cond.methodLink RX4 90 yX4_put ∈ gtb := gt3 88 (by decide +kernel) rfl
theorem k_570 : Cond.instanceMethod yX4_put ∈ gtb := gt3 90 (by decide +kernel) rfl
theorem k_571 : Cond.code yX4_put cX4_put 4 (some FieldType.int) ∈ gtb := gt3 91 (by decide +kernel) rfl
theorem k_572 : Cond.methodLink RL 89 yX4_change ∈ gtb := gt3 92 (by decide +kernel) rfl
theorem k_573 : Cond.instanceMethod yX4_change ∈ gtb := gt3 93 (by decide +kernel) rfl
theorem k_574 : Cond.selects RX4 yX4_change yX4_change ∈ gtb := gt3 94 (by decide +kernel) rfl
theorem k_575 : Cond.code yX4_change cX4_change 3 (some FieldType.int) ∈ gtb := gt3 95 (by decide +kernel) rfl
theorem k_576 : Cond.methodLink RL 92 yX4_told ∈ gtb := gt3 96 (by decide +kernel) rfl
theorem k_577 : Cond.instanceMethod yX4_told ∈ gtb := gt3 97 (by decide +kernel) rfl
theorem k_578 : Cond.selects RX4 yX4_told yX4_told ∈ gtb := gt3 98 (by decide +kernel) rfl
theorem k_579 : Cond.code yX4_told cX4_told 3 (some FieldType.int) ∈ gtb := gt3 99 (by decide +kernel) rfl
theorem k_580 : Cond.methodLink RL 95 yX4_nails ∈ gtb := gt3 100 (by decide +kernel) rfl
theorem k_581 : Cond.instanceMethod yX4_nails ∈ gtb := gt3 101 (by decide +kernel) rfl
theorem k_582 : Cond.selects RX4 yX4_nails yX4_nails ∈ gtb := gt3 102 (by decide +kernel) rfl
theorem k_583 : Cond.code yX4_nails cX4_nails 4 (some FieldType.int) ∈ gtb := gt3 103 (by decide +kernel) rfl
theorem k_584 : Cond.methodLink RL 98 yX4_keep ∈ gtb := gt3 104 (by decide +kernel) rfl
theorem k_585 : Cond.instanceMethod yX4_keep ∈ gtb := gt3 105 (by decide +kernel) rfl
theorem k_586 : Cond.selects RX4 yX4_keep yX4_keep ∈ gtb := gt3 106 (by decide +kernel) rfl
theorem k_587 : Cond.code yX4_keep cX4_keep 4 (some FieldType.int) ∈ gtb := gt3 107 (by decide +kernel) rfl
theorem k_588 : Cond.methodLink RL 101 yX4_fogger ∈ gtb := gt3 108 (by decide +kernel) rfl
theorem k_589 : Cond.instanceMethod yX4_fogger ∈ gtb := gt3 109 (by decide +kernel) rfl
theorem k_590 : Cond.selects RX4 yX4_fogger yX4_fogger ∈ gtb := gt3 110 (by decide +kernel) rfl
theorem k_591 : Cond.code yX4_fogger cX4_fogger 3 (some FieldType.int) ∈ gtb := gt3 111 (by decide +kernel) rfl
theorem k_592 : Cond.methodLink RX4 96 yX4_foggerTold ∈ gtb := gt3 112 (by decide +kernel) rfl
theorem k_594 : Cond.instanceMethod yX4_foggerTold ∈ gtb := gt3 114 (by decide +kernel) rfl
theorem k_595 : Cond.code yX4_foggerTold cX4_foggerTold 5 (some FieldType.int) ∈ gtb := gt3 115 (by decide +kernel) rfl
theorem k_596 : Cond.methodLink RX4 93 yX4_nailersOf ∈ gtb := gt3 116 (by decide +kernel) rfl
theorem k_598 : Cond.instanceMethod yX4_nailersOf ∈ gtb := gt3 118 (by decide +kernel) rfl
theorem k_599 : Cond.code yX4_nailersOf cX4_nailersOf 4 (some FieldType.int) ∈ gtb := gt3 119 (by decide +kernel) rfl
theorem k_600 : Cond.methodLink RL 105 yX4_count ∈ gtb := gt3 120 (by decide +kernel) rfl
theorem k_601 : Cond.instanceMethod yX4_count ∈ gtb := gt3 121 (by decide +kernel) rfl
theorem k_602 : Cond.selects RX4 yX4_count yX4_count ∈ gtb := gt3 122 (by decide +kernel) rfl
theorem k_603 : Cond.code yX4_count cX4_count 2 (some FieldType.int) ∈ gtb := gt3 123 (by decide +kernel) rfl
theorem k_604 : Cond.methodLink RX4 116 yX4_counted ∈ gtb := gt3 124 (by decide +kernel) rfl
theorem k_606 : Cond.instanceMethod yX4_counted ∈ gtb := gt3 126 (by decide +kernel) rfl
theorem k_607 : Cond.code yX4_counted cX4_counted 2 (some FieldType.int) ∈ gtb := gt3 127 (by decide +kernel) rfl
theorem k_608 : Cond.methodLink RX4 109 yX4_hot ∈ gtb := gt3 128 (by decide +kernel) rfl
theorem k_610 : Cond.instanceMethod yX4_hot ∈ gtb := gt3 130 (by decide +kernel) rfl
theorem k_611 : Cond.code yX4_hot cX4_hot 3 (some FieldType.int) ∈ gtb := gt3 131 (by decide +kernel) rfl
theorem k_612 : Cond.methodLink RX4 113 yX4_summed ∈ gtb := gt3 132 (by decide +kernel) rfl
theorem k_614 : Cond.instanceMethod yX4_summed ∈ gtb := gt3 134 (by decide +kernel) rfl
theorem k_615 : Cond.code yX4_summed cX4_summed 4 (some FieldType.int) ∈ gtb := gt3 135 (by decide +kernel) rfl
theorem k_616 : Cond.methodLink RX4 99 yX4_sum ∈ gtb := gt3 136 (by decide +kernel) rfl
theorem k_618 : Cond.instanceMethod yX4_sum ∈ gtb := gt3 138 (by decide +kernel) rfl
theorem k_619 : Cond.code yX4_sum cX4_sum 5 (some FieldType.int) ∈ gtb := gt3 139 (by decide +kernel) rfl
theorem k_620 : Cond.methodLink RX4 102 yX4_sumOfFour ∈ gtb := gt3 140 (by decide +kernel) rfl
theorem k_622 : Cond.instanceMethod yX4_sumOfFour ∈ gtb := gt3 142 (by decide +kernel) rfl
theorem k_623 : Cond.code yX4_sumOfFour cX4_sumOfFour 3 (some FieldType.int) ∈ gtb := gt3 143 (by decide +kernel) rfl
theorem k_624 : Cond.methodLink RX4 105 yX4_bought ∈ gtb := gt3 144 (by decide +kernel) rfl
theorem k_625 : Cond.static yX4_bought ∈ gtb := gt3 145 (by decide +kernel) rfl
theorem k_626 : Cond.code yX4_bought cX4_bought 1 (some FieldType.int) ∈ gtb := gt3 146 (by decide +kernel) rfl
theorem k_627 : Cond.methodLink RL 108 yX4_pass_ ∈ gtb := gt3 147 (by decide +kernel) rfl
theorem k_628 : Cond.instanceMethod yX4_pass_ ∈ gtb := gt3 148 (by decide +kernel) rfl
theorem k_629 : Cond.selects RX4 yX4_pass_ yX4_pass_ ∈ gtb := gt3 149 (by decide +kernel) rfl
theorem k_630 : Cond.code yX4_pass_ cX4_pass_ 4 (some FieldType.int) ∈ gtb := gt3 150 (by decide +kernel) rfl
theorem k_631 : Cond.methodLink RX4 75 yX4_pass ∈ gtb := gt3 151 (by decide +kernel) rfl
theorem k_633 : Cond.instanceMethod yX4_pass ∈ gtb := gt3 153 (by decide +kernel) rfl
theorem k_634 : Cond.code yX4_pass cX4_pass 6 (some FieldType.int) ∈ gtb := gt3 154 (by decide +kernel) rfl
theorem k_635 : Cond.methodLink RX4 58 yX4_work ∈ gtb := gt3 155 (by decide +kernel) rfl
theorem k_637 : Cond.instanceMethod yX4_work ∈ gtb := gt3 157 (by decide +kernel) rfl
theorem k_638 : Cond.code yX4_work cX4_work 9 (some FieldType.int) ∈ gtb := gt3 158 (by decide +kernel) rfl
theorem k_639 : Cond.methodLink RX4 36 Lib.Math.min.name ∈ gtb := gt3 159 (by decide +kernel) rfl
theorem k_640 : Cond.methodLink RX4 42 Lib.Math.max.name ∈ gtb := gt3 160 (by decide +kernel) rfl
theorem k_641 : Cond.methodLink RX4 45 yX4_hasIron ∈ gtb := gt3 161 (by decide +kernel) rfl
theorem k_643 : Cond.instanceMethod yX4_hasIron ∈ gtb := gt3 163 (by decide +kernel) rfl
theorem k_644 : Cond.code yX4_hasIron cX4_hasIron 3 (some FieldType.boolean) ∈ gtb := gt3 164 (by decide +kernel) rfl
theorem k_645 : Cond.fieldLink RX4 49 "NailRodsModel" "OUNCES" "[I" ∈ gtb := gt3 165 (by decide +kernel) rfl
theorem k_647 : Cond.methodLink RX4 62 yX4_reckon ∈ gtb := gt3 167 (by decide +kernel) rfl
theorem k_649 : Cond.instanceMethod yX4_reckon ∈ gtb := gt3 169 (by decide +kernel) rfl
theorem k_650 : Cond.code yX4_reckon cX4_reckon 10 none ∈ gtb := gt3 170 (by decide +kernel) rfl
theorem k_651 : Cond.methodLink RX4 55 yX4_priceOf ∈ gtb := gt3 171 (by decide +kernel) rfl
theorem k_652 : Cond.static yX4_priceOf ∈ gtb := gt3 172 (by decide +kernel) rfl
theorem k_653 : Cond.code yX4_priceOf cX4_priceOf 2 (some FieldType.int) ∈ gtb := gt3 173 (by decide +kernel) rfl
theorem k_654 : Cond.fieldLink RX4 52 "NailRodsModel" "WORTH" "[I" ∈ gtb := gt3 174 (by decide +kernel) rfl
theorem k_656 : Cond.methodLink RL 111 yX4_rate ∈ gtb := gt3 176 (by decide +kernel) rfl
theorem k_657 : Cond.instanceMethod yX4_rate ∈ gtb := gt3 177 (by decide +kernel) rfl
theorem k_658 : Cond.selects RX4 yX4_rate yX4_rate ∈ gtb := gt3 178 (by decide +kernel) rfl
theorem k_659 : Cond.code yX4_rate cX4_rate 2 (some FieldType.int) ∈ gtb := gt3 179 (by decide +kernel) rfl
theorem k_660 : Cond.methodLink RX4 119 yX4_lookAhead ∈ gtb := gt3 180 (by decide +kernel) rfl
theorem k_662 : Cond.instanceMethod yX4_lookAhead ∈ gtb := gt3 182 (by decide +kernel) rfl
theorem k_663 : Cond.code yX4_lookAhead cX4_lookAhead 1 none ∈ gtb := gt3 183 (by decide +kernel) rfl
theorem k_664 : Cond.methodLink RX4 66 arraycopyName ∈ gtb := gt3 184 (by decide +kernel) rfl
theorem k_665 : Cond.static arraycopyName ∈ gtb := gt3 185 (by decide +kernel) rfl
theorem k_666 : Cond.native arraycopyName ∈ gtb := gt3 186 (by decide +kernel) rfl
theorem k_667 : Cond.methodLink RL 114 yX4_when ∈ gtb := gt3 187 (by decide +kernel) rfl
theorem k_668 : Cond.instanceMethod yX4_when ∈ gtb := gt3 188 (by decide +kernel) rfl
theorem k_669 : Cond.selects RX4 yX4_when yX4_when ∈ gtb := gt3 189 (by decide +kernel) rfl
theorem k_670 : Cond.code yX4_when cX4_when 5 (some FieldType.int) ∈ gtb := gt3 190 (by decide +kernel) rfl
theorem k_671 : Cond.methodLink RL 117 yX4_foresee ∈ gtb := gt3 191 (by decide +kernel) rfl
theorem k_672 : Cond.instanceMethod yX4_foresee ∈ gtb := gt3 192 (by decide +kernel) rfl
theorem k_673 : Cond.selects RX4 yX4_foresee yX4_foresee ∈ gtb := gt3 193 (by decide +kernel) rfl
theorem k_674 : Cond.code yX4_foresee cX4_foresee 3 (some FieldType.int) ∈ gtb := gt3 194 (by decide +kernel) rfl
theorem k_675 : Cond.methodLink RX4 122 yX4_passAhead ∈ gtb := gt3 195 (by decide +kernel) rfl
theorem k_677 : Cond.instanceMethod yX4_passAhead ∈ gtb := gt3 197 (by decide +kernel) rfl
theorem k_678 : Cond.code yX4_passAhead cX4_passAhead 3 none ∈ gtb := gt3 198 (by decide +kernel) rfl
theorem k_679 : Cond.methodLink RL 120 yX4_advise ∈ gtb := gt3 199 (by decide +kernel) rfl
theorem k_680 : Cond.instanceMethod yX4_advise ∈ gtb := gt3 200 (by decide +kernel) rfl
theorem k_681 : Cond.selects RX4 yX4_advise yX4_advise ∈ gtb := gt3 201 (by decide +kernel) rfl
theorem k_682 : Cond.code yX4_advise cX4_advise 5 (some FieldType.int) ∈ gtb := gt3 202 (by decide +kernel) rfl
theorem k_683 : Cond.methodLink RX4 126 yX4_worthOf ∈ gtb := gt3 203 (by decide +kernel) rfl
theorem k_685 : Cond.instanceMethod yX4_worthOf ∈ gtb := gt3 205 (by decide +kernel) rfl
theorem k_686 : Cond.code yX4_worthOf cX4_worthOf 6 (some FieldType.int) ∈ gtb := gt3 206 (by decide +kernel) rfl
theorem k_687 : Cond.methodLink RL 124 yX4_richest ∈ gtb := gt3 207 (by decide +kernel) rfl
theorem k_688 : Cond.instanceMethod yX4_richest ∈ gtb := gt3 208 (by decide +kernel) rfl
theorem k_689 : Cond.selects RX4 yX4_richest yX4_richest ∈ gtb := gt3 209 (by decide +kernel) rfl
theorem k_690 : Cond.code yX4_richest cX4_richest 3 (some FieldType.int) ∈ gtb := gt3 210 (by decide +kernel) rfl
theorem k_691 : Cond.methodLink RX4 130 yX4_wealth ∈ gtb := gt3 211 (by decide +kernel) rfl
theorem k_693 : Cond.instanceMethod yX4_wealth ∈ gtb := gt3 213 (by decide +kernel) rfl
theorem k_694 : Cond.code yX4_wealth cX4_wealth 2 (some FieldType.int) ∈ gtb := gt3 214 (by decide +kernel) rfl
theorem k_695 : Cond.methodLink RL 129 yX4_mean ∈ gtb := gt3 215 (by decide +kernel) rfl
theorem k_696 : Cond.instanceMethod yX4_mean ∈ gtb := gt3 216 (by decide +kernel) rfl
theorem k_697 : Cond.selects RX4 yX4_mean yX4_mean ∈ gtb := gt3 217 (by decide +kernel) rfl
theorem k_698 : Cond.code yX4_mean cX4_mean 1 (some FieldType.double) ∈ gtb := gt3 218 (by decide +kernel) rfl
theorem k_699 : Cond.methodLink RL 134 yX4_digest ∈ gtb := gt3 219 (by decide +kernel) rfl
theorem k_700 : Cond.instanceMethod yX4_digest ∈ gtb := gt3 220 (by decide +kernel) rfl
theorem k_701 : Cond.selects RX4 yX4_digest yX4_digest ∈ gtb := gt3 221 (by decide +kernel) rfl
theorem k_702 : Cond.code yX4_digest cX4_digest 5 (some FieldType.long) ∈ gtb := gt3 222 (by decide +kernel) rfl
theorem k_703 : Cond.constantLong RX4 133 1259 ∈ gtb := gt3 223 (by decide +kernel) rfl
theorem k_704 : Cond.constantLong RX4 135 31 ∈ gtb := gt3 224 (by decide +kernel) rfl
theorem k_705 : Cond.arrayClass FieldType.long ∈ gtb := gt3 225 (by decide +kernel) rfl
theorem ks_0 : Cond.selects RX2 yX2_total yX2_total ∈ gtb := gt0 0 (by decide +kernel) rfl
theorem ks_1 : Cond.selects RX2 yX2_warehouseBags yX2_warehouseBags ∈ gtb := gt0 1 (by decide +kernel) rfl
theorem ks_2 : Cond.selects RX2 yX2_sumOfShares yX2_sumOfShares ∈ gtb := gt0 2 (by decide +kernel) rfl
theorem ks_3 : Cond.selects RX1 yX1_shareOfTotal yX1_shareOfTotal ∈ gtb := gt0 3 (by decide +kernel) rfl
theorem ks_4 : Cond.selects RX1 yX1_addToDigest yX1_addToDigest ∈ gtb := gt0 4 (by decide +kernel) rfl
theorem ks_5 : Cond.selects RX1 yX1_number yX1_number ∈ gtb := gt0 5 (by decide +kernel) rfl
theorem ks_6 : Cond.selects RX2 yX2_foggerNumber yX2_foggerNumber ∈ gtb := gt0 6 (by decide +kernel) rfl
theorem ks_7 : Cond.selects RX2 yX2_workersFor yX2_workersFor ∈ gtb := gt0 7 (by decide +kernel) rfl
theorem ks_9 : Cond.selects RX1 yX1_begin yX1_begin ∈ gtb := gt0 9 (by decide +kernel) rfl
theorem ks_10 : Cond.selects RX3 yX3_needNailer yX3_needNailer ∈ gtb := gt0 10 (by decide +kernel) rfl
theorem ks_11 : Cond.selects RX2 yX2_goBy yX2_goBy ∈ gtb := gt0 11 (by decide +kernel) rfl
theorem ks_12 : Cond.selects RX2 yX2_goByOne yX2_goByOne ∈ gtb := gt0 12 (by decide +kernel) rfl
theorem ks_13 : Cond.selects RX1 yX1_workHour yX1_workHour ∈ gtb := gt0 13 (by decide +kernel) rfl
theorem ks_14 : Cond.selects RX1 yX1_tendFire yX1_tendFire ∈ gtb := gt0 14 (by decide +kernel) rfl
theorem ks_15 : Cond.selects RX1 yX1_head yX1_head ∈ gtb := gt0 15 (by decide +kernel) rfl
theorem ks_16 : Cond.selects RX1 yX1_headFromHand yX1_headFromHand ∈ gtb := gt0 16 (by decide +kernel) rfl
theorem ks_17 : Cond.selects RX1 yX1_store yX1_store ∈ gtb := gt0 17 (by decide +kernel) rfl
theorem ks_18 : Cond.selects RX2 yX2_reckonWeek yX2_reckonWeek ∈ gtb := gt0 18 (by decide +kernel) rfl
theorem ks_19 : Cond.selects RX0 yX0_buyBags yX0_buyBags ∈ gtb := gt0 19 (by decide +kernel) rfl
theorem ks_20 : Cond.selects RX0 yX0_collectDebt yX0_collectDebt ∈ gtb := gt0 20 (by decide +kernel) rfl
theorem ks_21 : Cond.selects RX0 yX0_deliver yX0_deliver ∈ gtb := gt0 21 (by decide +kernel) rfl
theorem ks_22 : Cond.selects RX1 yX1_copyFrom yX1_copyFrom ∈ gtb := gt0 22 (by decide +kernel) rfl
theorem ks_23 : Cond.selects RX1 yX1_workHours yX1_workHours ∈ gtb := gt0 23 (by decide +kernel) rfl
theorem ks_24 : Cond.selects RX2 yX2_copyFrom yX2_copyFrom ∈ gtb := gt0 24 (by decide +kernel) rfl
theorem ks_25 : Cond.selects RX0 yX0_copyFrom yX0_copyFrom ∈ gtb := gt0 25 (by decide +kernel) rfl
theorem ks_26 : Cond.selects RX4 yX4_no yX4_no ∈ gtb := gt0 26 (by decide +kernel) rfl
theorem ks_27 : Cond.selects RX4 yX4_isThere yX4_isThere ∈ gtb := gt0 27 (by decide +kernel) rfl
theorem ks_28 : Cond.selects RX4 yX4_put yX4_put ∈ gtb := gt0 28 (by decide +kernel) rfl
theorem ks_29 : Cond.selects RX4 yX4_foggerTold yX4_foggerTold ∈ gtb := gt0 29 (by decide +kernel) rfl
theorem ks_30 : Cond.selects RX4 yX4_nailersOf yX4_nailersOf ∈ gtb := gt0 30 (by decide +kernel) rfl
theorem ks_31 : Cond.selects RX4 yX4_counted yX4_counted ∈ gtb := gt0 31 (by decide +kernel) rfl
theorem ks_32 : Cond.selects RX4 yX4_hot yX4_hot ∈ gtb := gt0 32 (by decide +kernel) rfl
theorem ks_33 : Cond.selects RX4 yX4_summed yX4_summed ∈ gtb := gt0 33 (by decide +kernel) rfl
theorem ks_34 : Cond.selects RX4 yX4_sum yX4_sum ∈ gtb := gt0 34 (by decide +kernel) rfl
theorem ks_35 : Cond.selects RX4 yX4_sumOfFour yX4_sumOfFour ∈ gtb := gt0 35 (by decide +kernel) rfl
theorem ks_36 : Cond.selects RX4 yX4_pass yX4_pass ∈ gtb := gt0 36 (by decide +kernel) rfl
theorem ks_37 : Cond.selects RX4 yX4_work yX4_work ∈ gtb := gt0 37 (by decide +kernel) rfl
theorem ks_38 : Cond.selects RX4 yX4_hasIron yX4_hasIron ∈ gtb := gt0 38 (by decide +kernel) rfl
theorem ks_39 : Cond.selects RX4 yX4_reckon yX4_reckon ∈ gtb := gt0 39 (by decide +kernel) rfl
theorem ks_40 : Cond.selects RX4 yX4_lookAhead yX4_lookAhead ∈ gtb := gt0 40 (by decide +kernel) rfl
theorem ks_41 : Cond.selects RX4 yX4_passAhead yX4_passAhead ∈ gtb := gt0 41 (by decide +kernel) rfl
theorem ks_42 : Cond.selects RX4 yX4_worthOf yX4_worthOf ∈ gtb := gt0 42 (by decide +kernel) rfl
theorem ks_43 : Cond.selects RX4 yX4_wealth yX4_wealth ∈ gtb := gt0 43 (by decide +kernel) rfl
theorem inX0g : ∀ w ∈ wsX00, w ∈ gtb := by
  intro w h
  obtain ⟨k, hk, rfl⟩ := List.mem_map.mp h
  have hk := List.mem_range.mp hk
  rcases (show k = 0 ∨ k = 1 ∨ k = 2 ∨ k = 3 ∨ k = 4 ∨ k = 5 by omega) with rfl | rfl | rfl | rfl | rfl | rfl
  · exact k_111
  · exact k_113
  · exact k_115
  · exact k_117
  · exact k_119
  · exact k_121
theorem inX1g : ∀ w ∈ wsX10, w ∈ gtb := by
  intro w h
  obtain ⟨k, hk, rfl⟩ := List.mem_map.mp h
  have hk := List.mem_range.mp hk
  rcases (show k = 0 ∨ k = 1 ∨ k = 2 ∨ k = 3 ∨ k = 4 ∨ k = 5 ∨ k = 6 ∨ k = 7 ∨ k = 8 ∨ k = 9 ∨ k = 10 ∨ k = 11 ∨ k = 12 ∨ k = 13 by omega) with rfl | rfl | rfl | rfl | rfl | rfl | rfl | rfl | rfl | rfl | rfl | rfl | rfl | rfl
  · exact k_62
  · exact k_64
  · exact k_66
  · exact k_68
  · exact k_70
  · exact k_72
  · exact k_74
  · exact k_76
  · exact k_78
  · exact k_80
  · exact k_82
  · exact k_84
  · exact k_86
  · exact k_88
theorem inX2g : ∀ w ∈ wsX20, w ∈ gtb := by
  intro w h
  obtain ⟨k, hk, rfl⟩ := List.mem_map.mp h
  have hk := List.mem_range.mp hk
  rcases (show k = 0 ∨ k = 1 ∨ k = 2 ∨ k = 3 by omega) with rfl | rfl | rfl | rfl
  · exact k_131
  · exact k_133
  · exact k_135
  · exact k_137
theorem inX3g : ∀ w ∈ wsX30, w ∈ gtb := by
  intro w h
  obtain ⟨k, hk, rfl⟩ := List.mem_map.mp h
  have hk := List.mem_range.mp hk
  rcases (show k = 0 ∨ k = 1 ∨ k = 2 by omega) with rfl | rfl | rfl
  · exact k_145
  · exact k_147
  · exact k_149
theorem inX4g : ∀ w ∈ wsX40, w ∈ gtb := by
  intro w h
  obtain ⟨k, hk, rfl⟩ := List.mem_map.mp h
  have hk := List.mem_range.mp hk
  rcases (show k = 0 ∨ k = 1 ∨ k = 2 ∨ k = 3 ∨ k = 4 ∨ k = 5 ∨ k = 6 ∨ k = 7 by omega) with rfl | rfl | rfl | rfl | rfl | rfl | rfl | rfl
  · exact k_521
  · exact k_523
  · exact k_525
  · exact k_527
  · exact k_529
  · exact k_531
  · exact k_533
  · exact k_535
end
section
/-! of each method: not a handle, so many parameters; a plain name -/
theorem dd_X0_init : yX0_init.cls ≠ "java/lang/invoke/MethodHandle" ∧ yX0_init.cls ≠ "java/lang/invoke/VarHandle" ∧ (parseMethodDescriptor yX0_init.desc).map (fun d => d.parameters.length) = some 0 := by decide +kernel
theorem dd_X0_copyFrom : yX0_copyFrom.cls ≠ "java/lang/invoke/MethodHandle" ∧ yX0_copyFrom.cls ≠ "java/lang/invoke/VarHandle" ∧ (parseMethodDescriptor yX0_copyFrom.desc).map (fun d => d.parameters.length) = some 1 := by decide +kernel
theorem dd_X0_buyBags : yX0_buyBags.cls ≠ "java/lang/invoke/MethodHandle" ∧ yX0_buyBags.cls ≠ "java/lang/invoke/VarHandle" ∧ (parseMethodDescriptor yX0_buyBags.desc).map (fun d => d.parameters.length) = some 1 := by decide +kernel
theorem dd_X0_collectDebt : yX0_collectDebt.cls ≠ "java/lang/invoke/MethodHandle" ∧ yX0_collectDebt.cls ≠ "java/lang/invoke/VarHandle" ∧ (parseMethodDescriptor yX0_collectDebt.desc).map (fun d => d.parameters.length) = some 1 := by decide +kernel
theorem dd_X0_deliver : yX0_deliver.cls ≠ "java/lang/invoke/MethodHandle" ∧ yX0_deliver.cls ≠ "java/lang/invoke/VarHandle" ∧ (parseMethodDescriptor yX0_deliver.desc).map (fun d => d.parameters.length) = some 0 := by decide +kernel
theorem dd_X1_init : yX1_init.cls ≠ "java/lang/invoke/MethodHandle" ∧ yX1_init.cls ≠ "java/lang/invoke/VarHandle" ∧ (parseMethodDescriptor yX1_init.desc).map (fun d => d.parameters.length) = some 0 := by decide +kernel
theorem dd_X1_begin : yX1_begin.cls ≠ "java/lang/invoke/MethodHandle" ∧ yX1_begin.cls ≠ "java/lang/invoke/VarHandle" ∧ (parseMethodDescriptor yX1_begin.desc).map (fun d => d.parameters.length) = some 3 := by decide +kernel
theorem dd_X1_copyFrom : yX1_copyFrom.cls ≠ "java/lang/invoke/MethodHandle" ∧ yX1_copyFrom.cls ≠ "java/lang/invoke/VarHandle" ∧ (parseMethodDescriptor yX1_copyFrom.desc).map (fun d => d.parameters.length) = some 1 := by decide +kernel
theorem dd_X1_workHours : yX1_workHours.cls ≠ "java/lang/invoke/MethodHandle" ∧ yX1_workHours.cls ≠ "java/lang/invoke/VarHandle" ∧ (parseMethodDescriptor yX1_workHours.desc).map (fun d => d.parameters.length) = some 1 := by decide +kernel
theorem dd_X1_workHour : yX1_workHour.cls ≠ "java/lang/invoke/MethodHandle" ∧ yX1_workHour.cls ≠ "java/lang/invoke/VarHandle" ∧ (parseMethodDescriptor yX1_workHour.desc).map (fun d => d.parameters.length) = some 0 := by decide +kernel
theorem dd_X1_tendFire : yX1_tendFire.cls ≠ "java/lang/invoke/MethodHandle" ∧ yX1_tendFire.cls ≠ "java/lang/invoke/VarHandle" ∧ (parseMethodDescriptor yX1_tendFire.desc).map (fun d => d.parameters.length) = some 0 := by decide +kernel
theorem dd_X1_head : yX1_head.cls ≠ "java/lang/invoke/MethodHandle" ∧ yX1_head.cls ≠ "java/lang/invoke/VarHandle" ∧ (parseMethodDescriptor yX1_head.desc).map (fun d => d.parameters.length) = some 1 := by decide +kernel
theorem dd_X1_headFromHand : yX1_headFromHand.cls ≠ "java/lang/invoke/MethodHandle" ∧ yX1_headFromHand.cls ≠ "java/lang/invoke/VarHandle" ∧ (parseMethodDescriptor yX1_headFromHand.desc).map (fun d => d.parameters.length) = some 1 := by decide +kernel
theorem dd_X1_store : yX1_store.cls ≠ "java/lang/invoke/MethodHandle" ∧ yX1_store.cls ≠ "java/lang/invoke/VarHandle" ∧ (parseMethodDescriptor yX1_store.desc).map (fun d => d.parameters.length) = some 1 := by decide +kernel
theorem dd_X1_number : yX1_number.cls ≠ "java/lang/invoke/MethodHandle" ∧ yX1_number.cls ≠ "java/lang/invoke/VarHandle" ∧ (parseMethodDescriptor yX1_number.desc).map (fun d => d.parameters.length) = some 1 := by decide +kernel
theorem dd_X1_shareOfTotal : yX1_shareOfTotal.cls ≠ "java/lang/invoke/MethodHandle" ∧ yX1_shareOfTotal.cls ≠ "java/lang/invoke/VarHandle" ∧ (parseMethodDescriptor yX1_shareOfTotal.desc).map (fun d => d.parameters.length) = some 1 := by decide +kernel
theorem dd_X1_sumOf : yX1_sumOf.cls ≠ "java/lang/invoke/MethodHandle" ∧ yX1_sumOf.cls ≠ "java/lang/invoke/VarHandle" ∧ (parseMethodDescriptor yX1_sumOf.desc).map (fun d => d.parameters.length) = some 1 := by decide +kernel
theorem dd_X1_addToDigest : yX1_addToDigest.cls ≠ "java/lang/invoke/MethodHandle" ∧ yX1_addToDigest.cls ≠ "java/lang/invoke/VarHandle" ∧ (parseMethodDescriptor yX1_addToDigest.desc).map (fun d => d.parameters.length) = some 1 := by decide +kernel
theorem dd_X2_init : yX2_init.cls ≠ "java/lang/invoke/MethodHandle" ∧ yX2_init.cls ≠ "java/lang/invoke/VarHandle" ∧ (parseMethodDescriptor yX2_init.desc).map (fun d => d.parameters.length) = some 0 := by decide +kernel
theorem dd_X2_copyFrom : yX2_copyFrom.cls ≠ "java/lang/invoke/MethodHandle" ∧ yX2_copyFrom.cls ≠ "java/lang/invoke/VarHandle" ∧ (parseMethodDescriptor yX2_copyFrom.desc).map (fun d => d.parameters.length) = some 1 := by decide +kernel
theorem dd_X2_goBy : yX2_goBy.cls ≠ "java/lang/invoke/MethodHandle" ∧ yX2_goBy.cls ≠ "java/lang/invoke/VarHandle" ∧ (parseMethodDescriptor yX2_goBy.desc).map (fun d => d.parameters.length) = some 1 := by decide +kernel
theorem dd_X2_goByOne : yX2_goByOne.cls ≠ "java/lang/invoke/MethodHandle" ∧ yX2_goByOne.cls ≠ "java/lang/invoke/VarHandle" ∧ (parseMethodDescriptor yX2_goByOne.desc).map (fun d => d.parameters.length) = some 0 := by decide +kernel
theorem dd_X2_reckonWeek : yX2_reckonWeek.cls ≠ "java/lang/invoke/MethodHandle" ∧ yX2_reckonWeek.cls ≠ "java/lang/invoke/VarHandle" ∧ (parseMethodDescriptor yX2_reckonWeek.desc).map (fun d => d.parameters.length) = some 0 := by decide +kernel
theorem dd_X2_total : yX2_total.cls ≠ "java/lang/invoke/MethodHandle" ∧ yX2_total.cls ≠ "java/lang/invoke/VarHandle" ∧ (parseMethodDescriptor yX2_total.desc).map (fun d => d.parameters.length) = some 1 := by decide +kernel
theorem dd_X2_warehouseBags : yX2_warehouseBags.cls ≠ "java/lang/invoke/MethodHandle" ∧ yX2_warehouseBags.cls ≠ "java/lang/invoke/VarHandle" ∧ (parseMethodDescriptor yX2_warehouseBags.desc).map (fun d => d.parameters.length) = some 0 := by decide +kernel
theorem dd_X2_sumOfShares : yX2_sumOfShares.cls ≠ "java/lang/invoke/MethodHandle" ∧ yX2_sumOfShares.cls ≠ "java/lang/invoke/VarHandle" ∧ (parseMethodDescriptor yX2_sumOfShares.desc).map (fun d => d.parameters.length) = some 1 := by decide +kernel
theorem dd_X2_foggerNumber : yX2_foggerNumber.cls ≠ "java/lang/invoke/MethodHandle" ∧ yX2_foggerNumber.cls ≠ "java/lang/invoke/VarHandle" ∧ (parseMethodDescriptor yX2_foggerNumber.desc).map (fun d => d.parameters.length) = some 2 := by decide +kernel
theorem dd_X2_workersFor : yX2_workersFor.cls ≠ "java/lang/invoke/MethodHandle" ∧ yX2_workersFor.cls ≠ "java/lang/invoke/VarHandle" ∧ (parseMethodDescriptor yX2_workersFor.desc).map (fun d => d.parameters.length) = some 1 := by decide +kernel
theorem dd_X3_init : yX3_init.cls ≠ "java/lang/invoke/MethodHandle" ∧ yX3_init.cls ≠ "java/lang/invoke/VarHandle" ∧ (parseMethodDescriptor yX3_init.desc).map (fun d => d.parameters.length) = some 0 := by decide +kernel
theorem dd_X3_nailer : yX3_nailer.cls ≠ "java/lang/invoke/MethodHandle" ∧ yX3_nailer.cls ≠ "java/lang/invoke/VarHandle" ∧ (parseMethodDescriptor yX3_nailer.desc).map (fun d => d.parameters.length) = some 3 := by decide +kernel
theorem dd_X3_lend : yX3_lend.cls ≠ "java/lang/invoke/MethodHandle" ∧ yX3_lend.cls ≠ "java/lang/invoke/VarHandle" ∧ (parseMethodDescriptor yX3_lend.desc).map (fun d => d.parameters.length) = some 2 := by decide +kernel
theorem dd_X3_coal : yX3_coal.cls ≠ "java/lang/invoke/MethodHandle" ∧ yX3_coal.cls ≠ "java/lang/invoke/VarHandle" ∧ (parseMethodDescriptor yX3_coal.desc).map (fun d => d.parameters.length) = some 2 := by decide +kernel
theorem dd_X3_make : yX3_make.cls ≠ "java/lang/invoke/MethodHandle" ∧ yX3_make.cls ≠ "java/lang/invoke/VarHandle" ∧ (parseMethodDescriptor yX3_make.desc).map (fun d => d.parameters.length) = some 2 := by decide +kernel
theorem dd_X3_change : yX3_change.cls ≠ "java/lang/invoke/MethodHandle" ∧ yX3_change.cls ≠ "java/lang/invoke/VarHandle" ∧ (parseMethodDescriptor yX3_change.desc).map (fun d => d.parameters.length) = some 2 := by decide +kernel
theorem dd_X3_told : yX3_told.cls ≠ "java/lang/invoke/MethodHandle" ∧ yX3_told.cls ≠ "java/lang/invoke/VarHandle" ∧ (parseMethodDescriptor yX3_told.desc).map (fun d => d.parameters.length) = some 2 := by decide +kernel
theorem dd_X3_nails : yX3_nails.cls ≠ "java/lang/invoke/MethodHandle" ∧ yX3_nails.cls ≠ "java/lang/invoke/VarHandle" ∧ (parseMethodDescriptor yX3_nails.desc).map (fun d => d.parameters.length) = some 3 := by decide +kernel
theorem dd_X3_keep : yX3_keep.cls ≠ "java/lang/invoke/MethodHandle" ∧ yX3_keep.cls ≠ "java/lang/invoke/VarHandle" ∧ (parseMethodDescriptor yX3_keep.desc).map (fun d => d.parameters.length) = some 2 := by decide +kernel
theorem dd_X3_fogger : yX3_fogger.cls ≠ "java/lang/invoke/MethodHandle" ∧ yX3_fogger.cls ≠ "java/lang/invoke/VarHandle" ∧ (parseMethodDescriptor yX3_fogger.desc).map (fun d => d.parameters.length) = some 2 := by decide +kernel
theorem dd_X3_count : yX3_count.cls ≠ "java/lang/invoke/MethodHandle" ∧ yX3_count.cls ≠ "java/lang/invoke/VarHandle" ∧ (parseMethodDescriptor yX3_count.desc).map (fun d => d.parameters.length) = some 1 := by decide +kernel
theorem dd_X3_pass : yX3_pass.cls ≠ "java/lang/invoke/MethodHandle" ∧ yX3_pass.cls ≠ "java/lang/invoke/VarHandle" ∧ (parseMethodDescriptor yX3_pass.desc).map (fun d => d.parameters.length) = some 1 := by decide +kernel
theorem dd_X3_rate : yX3_rate.cls ≠ "java/lang/invoke/MethodHandle" ∧ yX3_rate.cls ≠ "java/lang/invoke/VarHandle" ∧ (parseMethodDescriptor yX3_rate.desc).map (fun d => d.parameters.length) = some 1 := by decide +kernel
theorem dd_X3_when : yX3_when.cls ≠ "java/lang/invoke/MethodHandle" ∧ yX3_when.cls ≠ "java/lang/invoke/VarHandle" ∧ (parseMethodDescriptor yX3_when.desc).map (fun d => d.parameters.length) = some 2 := by decide +kernel
theorem dd_X3_foresee : yX3_foresee.cls ≠ "java/lang/invoke/MethodHandle" ∧ yX3_foresee.cls ≠ "java/lang/invoke/VarHandle" ∧ (parseMethodDescriptor yX3_foresee.desc).map (fun d => d.parameters.length) = some 2 := by decide +kernel
theorem dd_X3_advise : yX3_advise.cls ≠ "java/lang/invoke/MethodHandle" ∧ yX3_advise.cls ≠ "java/lang/invoke/VarHandle" ∧ (parseMethodDescriptor yX3_advise.desc).map (fun d => d.parameters.length) = some 2 := by decide +kernel
theorem dd_X3_richest : yX3_richest.cls ≠ "java/lang/invoke/MethodHandle" ∧ yX3_richest.cls ≠ "java/lang/invoke/VarHandle" ∧ (parseMethodDescriptor yX3_richest.desc).map (fun d => d.parameters.length) = some 0 := by decide +kernel
theorem dd_X3_mean : yX3_mean.cls ≠ "java/lang/invoke/MethodHandle" ∧ yX3_mean.cls ≠ "java/lang/invoke/VarHandle" ∧ (parseMethodDescriptor yX3_mean.desc).map (fun d => d.parameters.length) = some 0 := by decide +kernel
theorem dd_X3_digest : yX3_digest.cls ≠ "java/lang/invoke/MethodHandle" ∧ yX3_digest.cls ≠ "java/lang/invoke/VarHandle" ∧ (parseMethodDescriptor yX3_digest.desc).map (fun d => d.parameters.length) = some 0 := by decide +kernel
theorem dd_X3_needNailer : yX3_needNailer.cls ≠ "java/lang/invoke/MethodHandle" ∧ yX3_needNailer.cls ≠ "java/lang/invoke/VarHandle" ∧ (parseMethodDescriptor yX3_needNailer.desc).map (fun d => d.parameters.length) = some 1 := by decide +kernel
theorem dd_X3_needIndex : yX3_needIndex.cls ≠ "java/lang/invoke/MethodHandle" ∧ yX3_needIndex.cls ≠ "java/lang/invoke/VarHandle" ∧ (parseMethodDescriptor yX3_needIndex.desc).map (fun d => d.parameters.length) = some 2 := by decide +kernel
theorem dd_X3_needWithin : yX3_needWithin.cls ≠ "java/lang/invoke/MethodHandle" ∧ yX3_needWithin.cls ≠ "java/lang/invoke/VarHandle" ∧ (parseMethodDescriptor yX3_needWithin.desc).map (fun d => d.parameters.length) = some 3 := by decide +kernel
theorem dd_X4_thrown : yX4_thrown.cls ≠ "java/lang/invoke/MethodHandle" ∧ yX4_thrown.cls ≠ "java/lang/invoke/VarHandle" ∧ (parseMethodDescriptor yX4_thrown.desc).map (fun d => d.parameters.length) = some 0 := by decide +kernel
theorem dd_X4_no : yX4_no.cls ≠ "java/lang/invoke/MethodHandle" ∧ yX4_no.cls ≠ "java/lang/invoke/VarHandle" ∧ (parseMethodDescriptor yX4_no.desc).map (fun d => d.parameters.length) = some 1 := by decide +kernel
theorem dd_X4_isIn : yX4_isIn.cls ≠ "java/lang/invoke/MethodHandle" ∧ yX4_isIn.cls ≠ "java/lang/invoke/VarHandle" ∧ (parseMethodDescriptor yX4_isIn.desc).map (fun d => d.parameters.length) = some 3 := by decide +kernel
theorem dd_X4_init : yX4_init.cls ≠ "java/lang/invoke/MethodHandle" ∧ yX4_init.cls ≠ "java/lang/invoke/VarHandle" ∧ (parseMethodDescriptor yX4_init.desc).map (fun d => d.parameters.length) = some 0 := by decide +kernel
theorem dd_X4_isThere : yX4_isThere.cls ≠ "java/lang/invoke/MethodHandle" ∧ yX4_isThere.cls ≠ "java/lang/invoke/VarHandle" ∧ (parseMethodDescriptor yX4_isThere.desc).map (fun d => d.parameters.length) = some 1 := by decide +kernel
theorem dd_X4_isFour : yX4_isFour.cls ≠ "java/lang/invoke/MethodHandle" ∧ yX4_isFour.cls ≠ "java/lang/invoke/VarHandle" ∧ (parseMethodDescriptor yX4_isFour.desc).map (fun d => d.parameters.length) = some 1 := by decide +kernel
theorem dd_X4_work : yX4_work.cls ≠ "java/lang/invoke/MethodHandle" ∧ yX4_work.cls ≠ "java/lang/invoke/VarHandle" ∧ (parseMethodDescriptor yX4_work.desc).map (fun d => d.parameters.length) = some 2 := by decide +kernel
theorem dd_X4_hasIron : yX4_hasIron.cls ≠ "java/lang/invoke/MethodHandle" ∧ yX4_hasIron.cls ≠ "java/lang/invoke/VarHandle" ∧ (parseMethodDescriptor yX4_hasIron.desc).map (fun d => d.parameters.length) = some 2 := by decide +kernel
theorem dd_X4_priceOf : yX4_priceOf.cls ≠ "java/lang/invoke/MethodHandle" ∧ yX4_priceOf.cls ≠ "java/lang/invoke/VarHandle" ∧ (parseMethodDescriptor yX4_priceOf.desc).map (fun d => d.parameters.length) = some 2 := by decide +kernel
theorem dd_X4_reckon : yX4_reckon.cls ≠ "java/lang/invoke/MethodHandle" ∧ yX4_reckon.cls ≠ "java/lang/invoke/VarHandle" ∧ (parseMethodDescriptor yX4_reckon.desc).map (fun d => d.parameters.length) = some 4 := by decide +kernel
theorem dd_X4_pass : yX4_pass.cls ≠ "java/lang/invoke/MethodHandle" ∧ yX4_pass.cls ≠ "java/lang/invoke/VarHandle" ∧ (parseMethodDescriptor yX4_pass.desc).map (fun d => d.parameters.length) = some 3 := by decide +kernel
theorem dd_X4_lookAhead : yX4_lookAhead.cls ≠ "java/lang/invoke/MethodHandle" ∧ yX4_lookAhead.cls ≠ "java/lang/invoke/VarHandle" ∧ (parseMethodDescriptor yX4_lookAhead.desc).map (fun d => d.parameters.length) = some 0 := by decide +kernel
theorem dd_X4_passAhead : yX4_passAhead.cls ≠ "java/lang/invoke/MethodHandle" ∧ yX4_passAhead.cls ≠ "java/lang/invoke/VarHandle" ∧ (parseMethodDescriptor yX4_passAhead.desc).map (fun d => d.parameters.length) = some 1 := by decide +kernel
theorem dd_X4_nailer : yX4_nailer.cls ≠ "java/lang/invoke/MethodHandle" ∧ yX4_nailer.cls ≠ "java/lang/invoke/VarHandle" ∧ (parseMethodDescriptor yX4_nailer.desc).map (fun d => d.parameters.length) = some 3 := by decide +kernel
theorem dd_X4_lend : yX4_lend.cls ≠ "java/lang/invoke/MethodHandle" ∧ yX4_lend.cls ≠ "java/lang/invoke/VarHandle" ∧ (parseMethodDescriptor yX4_lend.desc).map (fun d => d.parameters.length) = some 2 := by decide +kernel
theorem dd_X4_coal : yX4_coal.cls ≠ "java/lang/invoke/MethodHandle" ∧ yX4_coal.cls ≠ "java/lang/invoke/VarHandle" ∧ (parseMethodDescriptor yX4_coal.desc).map (fun d => d.parameters.length) = some 2 := by decide +kernel
theorem dd_X4_put : yX4_put.cls ≠ "java/lang/invoke/MethodHandle" ∧ yX4_put.cls ≠ "java/lang/invoke/VarHandle" ∧ (parseMethodDescriptor yX4_put.desc).map (fun d => d.parameters.length) = some 2 := by decide +kernel
theorem dd_X4_make : yX4_make.cls ≠ "java/lang/invoke/MethodHandle" ∧ yX4_make.cls ≠ "java/lang/invoke/VarHandle" ∧ (parseMethodDescriptor yX4_make.desc).map (fun d => d.parameters.length) = some 2 := by decide +kernel
theorem dd_X4_change : yX4_change.cls ≠ "java/lang/invoke/MethodHandle" ∧ yX4_change.cls ≠ "java/lang/invoke/VarHandle" ∧ (parseMethodDescriptor yX4_change.desc).map (fun d => d.parameters.length) = some 2 := by decide +kernel
theorem dd_X4_told : yX4_told.cls ≠ "java/lang/invoke/MethodHandle" ∧ yX4_told.cls ≠ "java/lang/invoke/VarHandle" ∧ (parseMethodDescriptor yX4_told.desc).map (fun d => d.parameters.length) = some 2 := by decide +kernel
theorem dd_X4_nails : yX4_nails.cls ≠ "java/lang/invoke/MethodHandle" ∧ yX4_nails.cls ≠ "java/lang/invoke/VarHandle" ∧ (parseMethodDescriptor yX4_nails.desc).map (fun d => d.parameters.length) = some 3 := by decide +kernel
theorem dd_X4_keep : yX4_keep.cls ≠ "java/lang/invoke/MethodHandle" ∧ yX4_keep.cls ≠ "java/lang/invoke/VarHandle" ∧ (parseMethodDescriptor yX4_keep.desc).map (fun d => d.parameters.length) = some 2 := by decide +kernel
theorem dd_X4_nailersOf : yX4_nailersOf.cls ≠ "java/lang/invoke/MethodHandle" ∧ yX4_nailersOf.cls ≠ "java/lang/invoke/VarHandle" ∧ (parseMethodDescriptor yX4_nailersOf.desc).map (fun d => d.parameters.length) = some 1 := by decide +kernel
theorem dd_X4_foggerTold : yX4_foggerTold.cls ≠ "java/lang/invoke/MethodHandle" ∧ yX4_foggerTold.cls ≠ "java/lang/invoke/VarHandle" ∧ (parseMethodDescriptor yX4_foggerTold.desc).map (fun d => d.parameters.length) = some 2 := by decide +kernel
theorem dd_X4_fogger : yX4_fogger.cls ≠ "java/lang/invoke/MethodHandle" ∧ yX4_fogger.cls ≠ "java/lang/invoke/VarHandle" ∧ (parseMethodDescriptor yX4_fogger.desc).map (fun d => d.parameters.length) = some 2 := by decide +kernel
theorem dd_X4_sum : yX4_sum.cls ≠ "java/lang/invoke/MethodHandle" ∧ yX4_sum.cls ≠ "java/lang/invoke/VarHandle" ∧ (parseMethodDescriptor yX4_sum.desc).map (fun d => d.parameters.length) = some 2 := by decide +kernel
theorem dd_X4_sumOfFour : yX4_sumOfFour.cls ≠ "java/lang/invoke/MethodHandle" ∧ yX4_sumOfFour.cls ≠ "java/lang/invoke/VarHandle" ∧ (parseMethodDescriptor yX4_sumOfFour.desc).map (fun d => d.parameters.length) = some 2 := by decide +kernel
theorem dd_X4_hot : yX4_hot.cls ≠ "java/lang/invoke/MethodHandle" ∧ yX4_hot.cls ≠ "java/lang/invoke/VarHandle" ∧ (parseMethodDescriptor yX4_hot.desc).map (fun d => d.parameters.length) = some 0 := by decide +kernel
theorem dd_X4_bought : yX4_bought.cls ≠ "java/lang/invoke/MethodHandle" ∧ yX4_bought.cls ≠ "java/lang/invoke/VarHandle" ∧ (parseMethodDescriptor yX4_bought.desc).map (fun d => d.parameters.length) = some 1 := by decide +kernel
theorem dd_X4_summed : yX4_summed.cls ≠ "java/lang/invoke/MethodHandle" ∧ yX4_summed.cls ≠ "java/lang/invoke/VarHandle" ∧ (parseMethodDescriptor yX4_summed.desc).map (fun d => d.parameters.length) = some 3 := by decide +kernel
theorem dd_X4_counted : yX4_counted.cls ≠ "java/lang/invoke/MethodHandle" ∧ yX4_counted.cls ≠ "java/lang/invoke/VarHandle" ∧ (parseMethodDescriptor yX4_counted.desc).map (fun d => d.parameters.length) = some 1 := by decide +kernel
theorem dd_X4_count : yX4_count.cls ≠ "java/lang/invoke/MethodHandle" ∧ yX4_count.cls ≠ "java/lang/invoke/VarHandle" ∧ (parseMethodDescriptor yX4_count.desc).map (fun d => d.parameters.length) = some 1 := by decide +kernel
theorem dd_X4_pass_ : yX4_pass_.cls ≠ "java/lang/invoke/MethodHandle" ∧ yX4_pass_.cls ≠ "java/lang/invoke/VarHandle" ∧ (parseMethodDescriptor yX4_pass_.desc).map (fun d => d.parameters.length) = some 1 := by decide +kernel
theorem dd_X4_rate : yX4_rate.cls ≠ "java/lang/invoke/MethodHandle" ∧ yX4_rate.cls ≠ "java/lang/invoke/VarHandle" ∧ (parseMethodDescriptor yX4_rate.desc).map (fun d => d.parameters.length) = some 1 := by decide +kernel
theorem dd_X4_when : yX4_when.cls ≠ "java/lang/invoke/MethodHandle" ∧ yX4_when.cls ≠ "java/lang/invoke/VarHandle" ∧ (parseMethodDescriptor yX4_when.desc).map (fun d => d.parameters.length) = some 2 := by decide +kernel
theorem dd_X4_foresee : yX4_foresee.cls ≠ "java/lang/invoke/MethodHandle" ∧ yX4_foresee.cls ≠ "java/lang/invoke/VarHandle" ∧ (parseMethodDescriptor yX4_foresee.desc).map (fun d => d.parameters.length) = some 2 := by decide +kernel
theorem dd_X4_worthOf : yX4_worthOf.cls ≠ "java/lang/invoke/MethodHandle" ∧ yX4_worthOf.cls ≠ "java/lang/invoke/VarHandle" ∧ (parseMethodDescriptor yX4_worthOf.desc).map (fun d => d.parameters.length) = some 3 := by decide +kernel
theorem dd_X4_advise : yX4_advise.cls ≠ "java/lang/invoke/MethodHandle" ∧ yX4_advise.cls ≠ "java/lang/invoke/VarHandle" ∧ (parseMethodDescriptor yX4_advise.desc).map (fun d => d.parameters.length) = some 2 := by decide +kernel
theorem dd_X4_richest : yX4_richest.cls ≠ "java/lang/invoke/MethodHandle" ∧ yX4_richest.cls ≠ "java/lang/invoke/VarHandle" ∧ (parseMethodDescriptor yX4_richest.desc).map (fun d => d.parameters.length) = some 0 := by decide +kernel
theorem dd_X4_wealth : yX4_wealth.cls ≠ "java/lang/invoke/MethodHandle" ∧ yX4_wealth.cls ≠ "java/lang/invoke/VarHandle" ∧ (parseMethodDescriptor yX4_wealth.desc).map (fun d => d.parameters.length) = some 1 := by decide +kernel
theorem dd_X4_mean : yX4_mean.cls ≠ "java/lang/invoke/MethodHandle" ∧ yX4_mean.cls ≠ "java/lang/invoke/VarHandle" ∧ (parseMethodDescriptor yX4_mean.desc).map (fun d => d.parameters.length) = some 0 := by decide +kernel
theorem dd_X4_digest : yX4_digest.cls ≠ "java/lang/invoke/MethodHandle" ∧ yX4_digest.cls ≠ "java/lang/invoke/VarHandle" ∧ (parseMethodDescriptor yX4_digest.desc).map (fun d => d.parameters.length) = some 0 := by decide +kernel
theorem dd_L_nailer : yL_nailer.cls ≠ "java/lang/invoke/MethodHandle" ∧ yL_nailer.cls ≠ "java/lang/invoke/VarHandle" ∧ (parseMethodDescriptor yL_nailer.desc).map (fun d => d.parameters.length) = some 5 := by decide +kernel
theorem dd_L_lend : yL_lend.cls ≠ "java/lang/invoke/MethodHandle" ∧ yL_lend.cls ≠ "java/lang/invoke/VarHandle" ∧ (parseMethodDescriptor yL_lend.desc).map (fun d => d.parameters.length) = some 4 := by decide +kernel
theorem dd_L_coal : yL_coal.cls ≠ "java/lang/invoke/MethodHandle" ∧ yL_coal.cls ≠ "java/lang/invoke/VarHandle" ∧ (parseMethodDescriptor yL_coal.desc).map (fun d => d.parameters.length) = some 4 := by decide +kernel
theorem dd_L_make : yL_make.cls ≠ "java/lang/invoke/MethodHandle" ∧ yL_make.cls ≠ "java/lang/invoke/VarHandle" ∧ (parseMethodDescriptor yL_make.desc).map (fun d => d.parameters.length) = some 4 := by decide +kernel
theorem dd_L_change : yL_change.cls ≠ "java/lang/invoke/MethodHandle" ∧ yL_change.cls ≠ "java/lang/invoke/VarHandle" ∧ (parseMethodDescriptor yL_change.desc).map (fun d => d.parameters.length) = some 4 := by decide +kernel
theorem dd_L_told : yL_told.cls ≠ "java/lang/invoke/MethodHandle" ∧ yL_told.cls ≠ "java/lang/invoke/VarHandle" ∧ (parseMethodDescriptor yL_told.desc).map (fun d => d.parameters.length) = some 4 := by decide +kernel
theorem dd_L_nails : yL_nails.cls ≠ "java/lang/invoke/MethodHandle" ∧ yL_nails.cls ≠ "java/lang/invoke/VarHandle" ∧ (parseMethodDescriptor yL_nails.desc).map (fun d => d.parameters.length) = some 5 := by decide +kernel
theorem dd_L_keep : yL_keep.cls ≠ "java/lang/invoke/MethodHandle" ∧ yL_keep.cls ≠ "java/lang/invoke/VarHandle" ∧ (parseMethodDescriptor yL_keep.desc).map (fun d => d.parameters.length) = some 4 := by decide +kernel
theorem dd_L_fogger : yL_fogger.cls ≠ "java/lang/invoke/MethodHandle" ∧ yL_fogger.cls ≠ "java/lang/invoke/VarHandle" ∧ (parseMethodDescriptor yL_fogger.desc).map (fun d => d.parameters.length) = some 4 := by decide +kernel
theorem dd_L_count : yL_count.cls ≠ "java/lang/invoke/MethodHandle" ∧ yL_count.cls ≠ "java/lang/invoke/VarHandle" ∧ (parseMethodDescriptor yL_count.desc).map (fun d => d.parameters.length) = some 3 := by decide +kernel
theorem dd_L_pass : yL_pass.cls ≠ "java/lang/invoke/MethodHandle" ∧ yL_pass.cls ≠ "java/lang/invoke/VarHandle" ∧ (parseMethodDescriptor yL_pass.desc).map (fun d => d.parameters.length) = some 3 := by decide +kernel
theorem dd_L_rate : yL_rate.cls ≠ "java/lang/invoke/MethodHandle" ∧ yL_rate.cls ≠ "java/lang/invoke/VarHandle" ∧ (parseMethodDescriptor yL_rate.desc).map (fun d => d.parameters.length) = some 3 := by decide +kernel
theorem dd_L_when : yL_when.cls ≠ "java/lang/invoke/MethodHandle" ∧ yL_when.cls ≠ "java/lang/invoke/VarHandle" ∧ (parseMethodDescriptor yL_when.desc).map (fun d => d.parameters.length) = some 4 := by decide +kernel
theorem dd_L_foresee : yL_foresee.cls ≠ "java/lang/invoke/MethodHandle" ∧ yL_foresee.cls ≠ "java/lang/invoke/VarHandle" ∧ (parseMethodDescriptor yL_foresee.desc).map (fun d => d.parameters.length) = some 4 := by decide +kernel
theorem dd_L_advise : yL_advise.cls ≠ "java/lang/invoke/MethodHandle" ∧ yL_advise.cls ≠ "java/lang/invoke/VarHandle" ∧ (parseMethodDescriptor yL_advise.desc).map (fun d => d.parameters.length) = some 4 := by decide +kernel
theorem dd_L_law : yL_law.cls ≠ "java/lang/invoke/MethodHandle" ∧ yL_law.cls ≠ "java/lang/invoke/VarHandle" ∧ (parseMethodDescriptor yL_law.desc).map (fun d => d.parameters.length) = some 1 := by decide +kernel
theorem pl_X0 : plainName RX0 = true := by decide +kernel
theorem pl_X1 : plainName RX1 = true := by decide +kernel
theorem pl_X2 : plainName RX2 = true := by decide +kernel
theorem pl_X3 : plainName RX3 = true := by decide +kernel
theorem pl_X4 : plainName RX4 = true := by decide +kernel
theorem pl_L : plainName RL = true := by decide +kernel
end
section
/-! THE LAYOUT. All cells of a run lie side by side from o on, in the order in which they are made: NailRods (0), its Trade (1) with its rows and 12 nailers of 3 cells and 4 foggers (2 .. 43), the foreseen Trade (44 .. 86), the trial nailer (87 .. 89), the model (90) and its rows (91 .. 95), the law's row (96). -/
/-- o, and what arrays are: int rows, Nailer rows, Fogger rows, long rows; where the four static tables lie -/
abbrev L5 : Type := Nat × ClassId × ClassId × ClassId × ClassId × (Nat → Nat)
def tyP (P : L5) : List (ClassId × FieldType) := [(P.2.1, .int), (P.2.2.1, .object RX1), (P.2.2.2.1, .object RX0), (P.2.2.2.2.1, .long)]
def nA (j : Nat) : Nat := if j < 12 then 3 + 3 * j else if j < 24 then 10 + 3 * j else 87
def fA (j : Nat) : Nat := if j < 4 then 40 + j else 79 + j
def rX (P : L5) : Nat := P.1 + 0
def rT (P : L5) (t : Nat) : Nat := P.1 + (1 + 43 * t)
def rNA (P : L5) (t : Nat) : Nat := P.1 + (2 + 43 * t)
def rFA (P : L5) (t : Nat) : Nat := P.1 + (39 + 43 * t)
def rN (P : L5) (j : Nat) : Nat := P.1 + nA j
def rL (P : L5) (j : Nat) : Nat := P.1 + (nA j + 1)
def rB (P : L5) (j : Nat) : Nat := P.1 + (nA j + 2)
def rF (P : L5) (j : Nat) : Nat := P.1 + fA j
def rM (P : L5) : Nat := P.1 + 90
def rA (P : L5) (b : Nat) : Nat := P.1 + (91 + b)
def rO (P : L5) : Nat := P.1 + 96
def rS (P : L5) (b : Nat) : Nat := P.2.2.2.2.2 b
/-- the kind of a place, and which of its kind -/
def kd (a : Nat) : Nat × Nat :=
  if a = 0 then (0, 0) else if a = 1 then (1, 0) else if a = 2 then (2, 0) else if a < 39 then (3 + a % 3, (a - 3) / 3) else if a = 39 then (6, 0) else if a < 44 then (7, a - 40)
  else if a = 44 then (1, 1) else if a = 45 then (2, 1) else if a < 82 then (3 + (a - 46) % 3, 12 + (a - 46) / 3) else if a = 82 then (6, 1) else if a < 87 then (7, a - 79)
  else if a = 87 then (3, 24) else if a = 88 then (4, 24) else if a = 89 then (5, 24) else if a = 90 then (8, 0) else if a < 96 then (9, a - 91) else (10, 0)
def ik (q : Nat × Nat) : Nat := match q.1 with
  | 0 => 0 | 1 => 1 + 43 * q.2 | 2 => 2 + 43 * q.2 | 3 => nA q.2 | 4 => nA q.2 + 1 | 5 => nA q.2 + 2 | 6 => 39 + 43 * q.2 | 7 => fA q.2 | 8 => 90 | 9 => 91 + q.2 | _ => 96
theorem ik_kd : ∀ a, a < 97 → ik (kd a) = a := by decide +kernel
def lenA (b : Nat) : Nat := match b with
  | 0 => 240 | 1 => 20 | 2 => 240 | 3 => 20 | _ => 4
/-- what a cell holds: nailers' rows N (20 numbers each: 12 fields, 4 loose, 4 bags), foggers' rows F, trades' T, the model's numbers K and rows A, the law's w -/
def cK (P : L5) (N F T : Nat → Nat → Int32) (K : Nat → Int32) (A : Nat → Nat → Int32) (w : Int64) (q : Nat × Nat) : va_E := match q.1 with
  | 0 => .inr (3, [.ref (rT P 0), .ref (rT P 1), .ref (rN P 24)])
  | 1 => .inr (2, [.int (T q.2 0), .int (T q.2 1), .ref (rNA P q.2), .ref (rFA P q.2)])
  | 2 => .inl (P.2.2.1, 12, .inr (.inr (.inr (.inr (fun i => some (rN P (12 * q.2 + i)))))))
  | 3 => .inr (1, [.int (N q.2 0), .int (N q.2 1), .int (N q.2 2), .int (N q.2 3), .int (N q.2 4), .int (N q.2 5), .int (N q.2 6), .int (N q.2 7), .int (N q.2 8), .int (N q.2 9), .int (N q.2 10), .int (N q.2 11), .ref (rL P q.2), .ref (rB P q.2)])
  | 4 => .inl (P.2.1, 4, .inl (fun i => if i < 4 then N q.2 (12 + i) else 0))
  | 5 => .inl (P.2.1, 4, .inl (fun i => if i < 4 then N q.2 (16 + i) else 0))
  | 6 => .inl (P.2.2.2.1, 4, .inr (.inr (.inr (.inr (fun i => some (rF P (4 * q.2 + i)))))))
  | 7 => .inr (0, [.int (F q.2 0), .int (F q.2 1), .int (F q.2 2), .int (F q.2 3), .int (F q.2 4), .int (F q.2 5)])
  | 8 => .inr (4, [.int (K 0), .int (K 1), .int (K 2), .ref (rA P 0), .ref (rA P 1), .ref (rA P 2), .ref (rA P 3), .ref (rA P 4)])
  | 9 => .inl (P.2.1, lenA q.2, .inl (A q.2))
  | _ => .inl (P.2.2.2.2.1, 1, .inr (.inl (fun _ => w)))
def cw (P : L5) (N F T : Nat → Nat → Int32) (K : Nat → Int32) (A : Nat → Nat → Int32) (w : Int64) : Nat → va_E := fun a => cK P N F T K A w (kd a)
/-- n cells from o on -/
def wl (o n : Nat) (f : Nat → va_E) : va_W := (List.range n).map (fun a => (o + a, f a))
theorem wl_len {o n : Nat} {f : Nat → va_E} : (wl o n f).length = n := by simp [wl]
theorem wl_get {o n : Nat} {f : Nat → va_E} {a : Nat} (h : a < n) : (wl o n f)[a]? = some (o + a, f a) := by simp [wl, h]
theorem wl_of {o n : Nat} {f : Nat → va_E} {k : Nat} {q : Nat × va_E} (h : (wl o n f)[k]? = some q) : k < n ∧ q = (o + k, f k) := by
  have hk : k < n := by
    have := (List.getElem?_eq_some_iff.mp h).1
    rwa [wl_len] at this
  rw [wl_get hk] at h
  exact ⟨hk, (Option.some.inj h).symm⟩
theorem wl_cong {o n : Nat} {f g : Nat → va_E} (h : ∀ a, a < n → f a = g a) : wl o n f = wl o n g := by
  unfold wl
  apply List.map_congr_left
  intro a ha
  rw [h a (List.mem_range.mp ha)]
theorem wl_set {o n : Nat} {f : Nat → va_E} {a : Nat} {e : va_E} (h : a < n) : (wl o n f).set a (o + a, e) = wl o n (va_up f a e) := by
  apply List.ext_getElem?
  intro j
  by_cases hj : j = a
  · subst hj
    rw [List.getElem?_set_self (by rw [wl_len]; exact h), wl_get h, va_up_self]
  · rw [List.getElem?_set_ne (Ne.symm hj)]
    by_cases hl : j < n
    · rw [wl_get hl, wl_get hl, va_up_ne _ _ hj]
    · rw [List.getElem?_eq_none (by rw [wl_len]; omega), List.getElem?_eq_none (by rw [wl_len]; omega)]
theorem wl_push {o n : Nat} {f : Nat → va_E} {e : va_E} : wl o n f ++ [(o + n, e)] = wl o (n + 1) (va_up f n e) := by
  unfold wl
  rw [List.range_succ, List.map_append, List.map_cons, List.map_nil, va_up_self]
  congr 1
  apply List.map_congr_left
  intro a ha
  rw [va_up_ne _ _ (Nat.ne_of_lt (List.mem_range.mp ha))]
theorem wl_D (o n : Nat) (f : Nat → va_E) : va_D (fun q => o ≤ q) (wl o n f) := by
  refine ⟨fun i j p q hi hj h => ?_, fun k q hk => ?_⟩
  · obtain ⟨-, rfl⟩ := wl_of hi
    obtain ⟨-, rfl⟩ := wl_of hj
    exact Nat.add_left_cancel h
  · obtain ⟨-, rfl⟩ := wl_of hk
    exact Nat.le_add_right _ _
theorem wl_sub {D : va_G} {cl : List vw_C} {o n n' : Nat} {f : Nat → va_E} {H : Heap} (hn : n' ≤ n) (h : va_P D cl (wl o n f) H) : va_P D cl (wl o n' f) H := by
  intro k q hk
  obtain ⟨h1, rfl⟩ := wl_of hk
  exact h k _ (wl_get (Nat.lt_of_lt_of_le h1 hn))
theorem cw_get {P : L5} {N F T : Nat → Nat → Int32} {K : Nat → Int32} {A : Nat → Nat → Int32} {w : Int64} (q : Nat × Nat) (h : kd (ik q) = q) (h2 : ik q < 97) : (wl P.1 97 (cw P N F T K A w))[ik q]? = some (P.1 + ik q, cK P N F T K A w q) := by
  rw [wl_get h2]
  unfold cw
  rw [h]
theorem cw_set {P : L5} {N F T : Nat → Nat → Int32} {K : Nat → Int32} {A : Nat → Nat → Int32} {w : Int64} {N' F' T' : Nat → Nat → Int32} {K' : Nat → Int32} {A' : Nat → Nat → Int32} {w' : Int64} (q : Nat × Nat) (h : kd (ik q) = q) (h2 : ik q < 97) {e : va_E} (he : cK P N' F' T' K' A' w' q = e) (ho : ∀ q', q' ≠ q → (∃ a, a < 97 ∧ kd a = q') → cK P N' F' T' K' A' w' q' = cK P N F T K A w q') :
    (wl P.1 97 (cw P N F T K A w)).set (ik q) (P.1 + ik q, e) = wl P.1 97 (cw P N' F' T' K' A' w') := by
  rw [wl_set h2]
  apply wl_cong
  intro a ha
  by_cases hq : a = ik q
  · subst hq
    rw [va_up_self]
    unfold cw
    rw [h, he]
  · rw [va_up_ne _ _ hq]
    unfold cw
    rw [ho (kd a) (fun z => hq (by rw [← z, ik_kd a ha])) ⟨a, ha, rfl⟩]
theorem kdN : ∀ j, j < 25 → kd (ik (3, j)) = (3, j) ∧ ik (3, j) < 97 := by decide +kernel
theorem kdL : ∀ j, j < 25 → kd (ik (4, j)) = (4, j) ∧ ik (4, j) < 97 := by decide +kernel
theorem kdB : ∀ j, j < 25 → kd (ik (5, j)) = (5, j) ∧ ik (5, j) < 97 := by decide +kernel
theorem kdF : ∀ j, j < 8 → kd (ik (7, j)) = (7, j) ∧ ik (7, j) < 97 := by decide +kernel
theorem kdT : ∀ j, j < 2 → kd (ik (1, j)) = (1, j) ∧ ik (1, j) < 97 := by decide +kernel
theorem kdNA : ∀ j, j < 2 → kd (ik (2, j)) = (2, j) ∧ ik (2, j) < 97 := by decide +kernel
theorem kdFA : ∀ j, j < 2 → kd (ik (6, j)) = (6, j) ∧ ik (6, j) < 97 := by decide +kernel
theorem kdA : ∀ j, j < 5 → kd (ik (9, j)) = (9, j) ∧ ik (9, j) < 97 := by decide +kernel
theorem kdX : kd (ik (0, 0)) = (0, 0) ∧ ik (0, 0) < 97 := by decide +kernel
theorem kdM : kd (ik (8, 0)) = (8, 0) ∧ ik (8, 0) < 97 := by decide +kernel
theorem kd8 : ∀ a, a < 97 → (kd a).1 = 8 → kd a = (8, 0) := by decide +kernel
theorem kdO : kd (ik (10, 0)) = (10, 0) ∧ ik (10, 0) < 97 := by decide +kernel
theorem va_up_eta {α : Type} (f : Nat → α) (k : Nat) : va_up f k (f k) = f := by
  funext j
  by_cases h : j = k
  · subst h; rw [va_up_self]
  · rw [va_up_ne _ _ h]
theorem va_up_up {α : Type} (f : Nat → α) (k : Nat) (a b : α) : va_up (va_up f k a) k b = va_up f k b := by
  funext j
  by_cases h : j = k
  · subst h; rw [va_up_self, va_up_self]
  · rw [va_up_ne _ _ h, va_up_ne _ _ h, va_up_ne _ _ h]
end
section
/-! WHAT STAYS ALL THE TIME (tables, strings, links between nest mates), THE STATE OF A WALK, AND ITS ROWS, one an instruction -/
def ozT (j : Nat) : Int32 := if j = 0 then 1 else if j = 1 then 2 else if j = 2 then 3 else 6
def woT (j : Nat) : Int32 := if j = 0 then 8 else if j = 1 then 14 else if j = 2 then 20 else 36
def stQ : List (String × String × (Nat → Int32)) := [("NailRods", "OUNCES", ozT), ("NailRods", "WORTH", woT), ("NailRodsModel", "OUNCES", ozT), ("NailRodsModel", "WORTH", woT)]
def strQ : List (Nat × String) := [(139, "there is no such number"), (143, "the value is out of its range"), (40, "there are 12 nailers"), (59, "more than 90 would be owed"), (70, "too few coins, or too much coal"), (75, "something is owed"), (119, "what is not 3 to 8")]
def xn (n : Nat) : String := if n = 1 then "java/lang/IndexOutOfBoundsException" else if n = 2 then "java/lang/IllegalArgumentException" else "java/lang/IllegalStateException"
def nwF : List (String × Nat × String × String × String) := [(RX3, 72, "NailRods$Nailer", "kind", "I"), (RX2, 49, "NailRods$Nailer", "fogger", "I"), (RX3, 77, "NailRods$Nailer", "fogger", "I"), (RX3, 61, "NailRods$Nailer", "rods", "I"), (RX3, 128, "NailRods$Nailer", "heat", "I"), (RX3, 67, "NailRods$Nailer", "coal", "I"), (RX0, 39, "NailRods$Nailer", "coins", "I"), (RX3, 64, "NailRods$Nailer", "coins", "I"), (RX3, 56, "NailRods$Nailer", "owed", "I"), (RX0, 40, "NailRods$Nailer", "owed", "I"), (RX3, 84, "NailRods$Nailer", "loose", "[I"), (RX0, 34, "NailRods$Nailer", "bags", "[I"), (RX3, 88, "NailRods$Nailer", "bags", "[I"), (RX3, 95, "NailRods$Fogger", "keptBack", "I"), (RX2, 74, "NailRods$Fogger", "keptBack", "I"), (RX2, 77, "NailRods$Fogger", "coins", "I"), (RX2, 68, "NailRods$Fogger", "bought", "I"), (RX2, 83, "NailRods$Fogger", "paid", "I"), (RX2, 86, "NailRods$Fogger", "earned", "I"), (RX3, 34, "NailRods$Trade", "nailerCount", "I"), (RX3, 45, "NailRods$Trade", "nailers", "[LNailRods$Nailer;"), (RX3, 91, "NailRods$Trade", "foggers", "[LNailRods$Fogger;"), (RX1, 82, "NailRods", "OUNCES", "[I"), (RX0, 30, "NailRods", "WORTH", "[I")]
def nwM : List (String × Nat × MethodName) := [(RX3, 9, yX2_init), (RX2, 17, yX1_init), (RX2, 24, yX0_init), (RX3, 21, yX1_init), (RX3, 104, yX2_total), (RX2, 71, yX1_shareOfTotal), (RX3, 135, yX1_addToDigest), (RX3, 100, yX2_foggerNumber), (RX3, 49, yX1_begin), (RX3, 80, yX1_number), (RX3, 107, yX2_goBy), (RX2, 43, yX1_workHour), (RX2, 52, yX0_buyBags), (RX2, 55, yX0_collectDebt), (RX2, 58, yX0_deliver), (RX3, 110, yX1_copyFrom), (RX3, 114, yX1_workHours), (RX3, 122, yX2_copyFrom), (RX2, 32, yX1_copyFrom), (RX2, 36, yX0_copyFrom)]
def dcN : List String := ["java/lang/RuntimeException", "java/lang/Exception", "java/lang/Throwable"]
def ST (P : L5) (U : State) : Prop :=
  (∀ (b : Nat) (q : String × String × (Nat → Int32)), stQ[b]? = some q → va_Z q.1 q.2.1 "[I" (.ref (rS P b)) (fun a => P.1 ≤ a) U U.heap ∧ va_T .int (rS P b) 4 (fun j => .int (q.2.2 j)) (fun a => P.1 ≤ a) U U.heap) ∧
  (vx_Zq Bundle.tN "UNASSIGNED_STACK" Bundle.steD (fun a => P.1 ≤ a) U U.heap ∧ vx_Zq Bundle.tN "SUPPRESSED_SENTINEL" Bundle.listD (fun a => P.1 ≤ a) U U.heap) ∧
  (∀ q ∈ strQ, ∃ a, vk_R RX3 q.1 q.2 a U) ∧
  (∀ q ∈ nwF, va_Nw (.fieldLinkNest q.1 q.2.1 q.2.2.1 q.2.2.2.1 q.2.2.2.2 RX3) U) ∧
  (∀ q ∈ nwM, va_Nw (.methodLinkNest q.1 q.2.1 q.2.2 RX3) U) ∧
  (va_AO RX1 U ∧ va_AO RX0 U) ∧
  (∀ n, va_Nw (.castable (xn n) (xn n)) U) ∧ (∀ a b, xn a ≠ xn b → va_Nc (xn a) (xn b) U) ∧ (∀ Y ∈ dcN, va_Nw (.declares (Bundle.initS Y)) U)
theorem ST.move {P : L5} {s U : State} (h : ST P s) (hW : s.WarmedH U.vm) (hH : ∀ q : Nat, q < s.heap.size → ¬ (fun a => P.1 ≤ a) q → U.heap[q]? = s.heap[q]?) : ST P U := by
  obtain ⟨h1, h2, h3, h4, h5, h6, h7, h8, h9⟩ := h
  refine ⟨fun b q hq => ?_, ?_, fun q hq => ?_, fun q hq => ?_, fun q hq => ?_, ?_, fun n => ?_, fun a b hab => ?_, fun Y hY => ?_⟩
  · obtain ⟨a1, a2⟩ := h1 b q hq
    exact ⟨va_Z.moved hW.alike (va_Z.kept a1 hH), va_T.moved hW.alike (va_T.kept a2 hH)⟩
  · exact ⟨vx_Zq.moved hW.alike (vx_Zq.kept h2.1 hH), vx_Zq.moved hW.alike (vx_Zq.kept h2.2 hH)⟩
  · obtain ⟨a, ha⟩ := h3 q hq
    exact ⟨a, vk_R.warm hW ha⟩
  · exact va_Nw.warmF hW (h4 q hq)
  · exact va_Nw.warmM hW (h5 q hq)
  · exact ⟨va_AO.moved hW.alike h6.1, va_AO.moved hW.alike h6.2⟩
  · exact va_Nw.warmC hW (h7 n)
  · exact va_Nc.moved hW.alike (h8 a b hab)
  · exact va_Nw.warmD hW (h9 Y hY)
/-- at a method's start: n cells that hold f; x: nothing else was made behind o -/
def PreI (P : L5) (D : va_G) (n : Nat) (x : Prop) (f : Nat → va_E) (U : State) : Prop := va_P D vwCl (wl P.1 n f) U.heap ∧ va_K D vwCl (tyP P) U ∧ P.1 ≤ U.heap.size ∧ (x → U.heap.size = P.1 + n) ∧ ST P U
theorem PreI.blind {P : L5} {D : va_G} {n : Nat} {x : Prop} {f : Nat → va_E} {av : List Value} : FrameBlind (va_Pc av (PreI P D n x f)) := by
  intro a U g mk h
  obtain ⟨h0, h1, h2, h3, h4, h5⟩ := h
  exact ⟨h0, h1, va_K.moved (u := U) (U := U.calling g mk a) (Vm.Alike.refl U.vm) h2, h3, h4, ST.move (s := U) (U := U.calling g mk a) h5 (State.WarmedH.refl U) (fun _ _ _ => rfl)⟩
def rmO (h mc ms : Nat) : Room := { frames := h, cells := mc, slots := ms, locals := 28 * h }
/-- what a method's walk stands on -/
def Cx (p : Program) (l : Launch) (s : State) (m : MethodId) (args : Array Value) (meth : Method) (c : Code) (P : L5) (D : va_G) (cc : ByteArray) (nL : Nat) (ret : Option FieldType) (own : String) : Prop :=
  p.tables.exec = Jvm.exec ∧ c.code = cc ∧ c.maxLocals = nL ∧ s.vm.findClass own = some m.cls ∧ (∀ w ∈ gtb, w.before args s = true) ∧ meth.sig.returnType = ret ∧ meth.locks = false ∧ va_K D vwCl (tyP P) s ∧ P.1 ≤ s.heap.size ∧ ST P s
/-- the walk's judgement: from every heap that holds f -/
def V (p : Program) (l : Launch) (e : Env) (R : Room) (s : State) (m : MethodId) (args : Array Value) (below : List Frame) (meth : Method) (c : Code) (P : L5) (D : va_G) (Q : State → Prop) (nL n : Nat) (x : Prop) (f : Nat → va_E) (k z pc : Nat) (lv : List (Nat × Value)) (st : List Value) : Prop :=
  ∀ (H : Heap) (locs : List Loc) (ls : Array Slot), va_P D vwCl (wl P.1 n f) H → (x → H.size = P.1 + n) → va_S (fun q => P.1 ≤ q) s.heap H locs → lv_has ls nL lv → W p l e R s m args below meth c H locs k z Q (F0 m pc ls st)
section VRows
variable {p : Program} {l : Launch} {e : Env} {R : Room} {s : State} {m : MethodId} {args : Array Value} {below : List Frame} {meth : Method} {c : Code} {P : L5} {D : va_G} {Q : State → Prop} {nL n : Nat} {x : Prop} {f : Nat → va_E} {k z pc : Nat} {lv : List (Nat × Value)} {st : List Value} {cc : ByteArray} {ret : Option FieldType} {own : String}
theorem v_iconst (C : Cx p l s m args meth c P D cc nL ret own) {i : Int} {v : Int32} (hdg : decode cc pc = .ok (.iconst i, 1)) (hv : Int32.ofInt i = v) (kk : V p l e R s m args below meth c P D Q nL n x f k z (pc + 1) lv (.int v :: st)) : V p l e R s m args below meth c P D Q nL n x f k z pc lv st := fun H locs ls hP hz hS hl => lv_iconst C.1 C.2.1 hdg hv (kk H locs ls hP hz hS hl)
theorem v_bipush (C : Cx p l s m args meth c P D cc nL ret own) {i : Int} {v : Int32} (hdg : decode cc pc = .ok (.bipush i, 2)) (hv : (Int8.ofInt i).toInt32 = v) (kk : V p l e R s m args below meth c P D Q nL n x f k z (pc + 2) lv (.int v :: st)) : V p l e R s m args below meth c P D Q nL n x f k z pc lv st := fun H locs ls hP hz hS hl => lv_bipush C.1 C.2.1 hdg hv (kk H locs ls hP hz hS hl)
theorem v_sipush (C : Cx p l s m args meth c P D cc nL ret own) {i : Int} {v : Int32} (hdg : decode cc pc = .ok (.sipush i, 3)) (hv : (Int16.ofInt i).toInt32 = v) (kk : V p l e R s m args below meth c P D Q nL n x f k z (pc + 3) lv (.int v :: st)) : V p l e R s m args below meth c P D Q nL n x f k z pc lv st := fun H locs ls hP hz hS hl => lv_sipush C.1 C.2.1 hdg hv (kk H locs ls hP hz hS hl)
theorem v_iload_n (C : Cx p l s m args meth c P D cc nL ret own) {i : Fin 4} {a : Int32} (q : Nat) (hdg : decode cc pc = .ok (.iload_n i, 1)) (hq : lv[q]? = some ((i : Nat), .int a)) (kk : V p l e R s m args below meth c P D Q nL n x f k z (pc + 1) lv (.int a :: st)) : V p l e R s m args below meth c P D Q nL n x f k z pc lv st := fun H locs ls hP hz hS hl => lv_iload_n C.1 C.2.1 hdg rfl (lv_at hl q hq) (kk H locs ls hP hz hS hl)
theorem v_iload (C : Cx p l s m args meth c P D cc nL ret own) {i : Nat} {a : Int32} (q : Nat) (hdg : decode cc pc = .ok (.iload i, 2)) (hq : lv[q]? = some (i, .int a)) (kk : V p l e R s m args below meth c P D Q nL n x f k z (pc + 2) lv (.int a :: st)) : V p l e R s m args below meth c P D Q nL n x f k z pc lv st := fun H locs ls hP hz hS hl => lv_iload C.1 C.2.1 hdg (lv_at hl q hq) (kk H locs ls hP hz hS hl)
theorem v_aload_n (C : Cx p l s m args meth c P D cc nL ret own) {i : Fin 4} {a : Nat} (q : Nat) (hdg : decode cc pc = .ok (.aload_n i, 1)) (hq : lv[q]? = some ((i : Nat), .ref a)) (kk : V p l e R s m args below meth c P D Q nL n x f k z (pc + 1) lv (.ref a :: st)) : V p l e R s m args below meth c P D Q nL n x f k z pc lv st := fun H locs ls hP hz hS hl => lv_aload_n C.1 C.2.1 hdg rfl (lv_at hl q hq) (kk H locs ls hP hz hS hl)
theorem v_aload (C : Cx p l s m args meth c P D cc nL ret own) {i : Nat} {a : Nat} (q : Nat) (hdg : decode cc pc = .ok (.aload i, 2)) (hq : lv[q]? = some (i, .ref a)) (kk : V p l e R s m args below meth c P D Q nL n x f k z (pc + 2) lv (.ref a :: st)) : V p l e R s m args below meth c P D Q nL n x f k z pc lv st := fun H locs ls hP hz hS hl => lv_aload C.1 C.2.1 hdg (lv_at hl q hq) (kk H locs ls hP hz hS hl)
theorem v_lload_n (C : Cx p l s m args meth c P D cc nL ret own) {i : Fin 4} {a : Int64} (q : Nat) (hdg : decode cc pc = .ok (.lload_n i, 1)) (hq : lv[q]? = some ((i : Nat), .long a)) (kk : V p l e R s m args below meth c P D Q nL n x f k z (pc + 1) lv (.long a :: st)) : V p l e R s m args below meth c P D Q nL n x f k z pc lv st := fun H locs ls hP hz hS hl => lv_lload_n C.1 C.2.1 hdg rfl (lv_at hl q hq) (kk H locs ls hP hz hS hl)
theorem v_dload (C : Cx p l s m args meth c P D cc nL ret own) {i : Nat} {a : UInt64} (q : Nat) (hdg : decode cc pc = .ok (.dload i, 2)) (hq : lv[q]? = some (i, .double a)) (kk : V p l e R s m args below meth c P D Q nL n x f k z (pc + 2) lv (.double a :: st)) : V p l e R s m args below meth c P D Q nL n x f k z pc lv st := fun H locs ls hP hz hS hl => lv_dload C.1 C.2.1 hdg (lv_at hl q hq) (kk H locs ls hP hz hS hl)
theorem v_istore_n (C : Cx p l s m args meth c P D cc nL ret own) {u : Fin 4} {i : Nat} {a : Int32} {lv' : List (Nat × Value)} (hdg : decode cc pc = .ok (.istore_n u, 1)) (hi : (u : Nat) = i) (hn : i < nL) (hl2 : (i, Value.int a) :: lv.filter (fun q => !(q.1 == i) && !(q.1 + 1 == i && q.2.category == 2)) = lv') (kk : V p l e R s m args below meth c P D Q nL n x f k z (pc + 1) lv' st) : V p l e R s m args below meth c P D Q nL n x f k z pc lv (.int a :: st) := fun H locs ls hP hz hS hl => lv_istore_n C.1 C.2.1 hdg hi hl hn hl2 (fun ls' hl' => kk H locs ls' hP hz hS hl')
theorem v_istore (C : Cx p l s m args meth c P D cc nL ret own) {i : Nat} {a : Int32} {lv' : List (Nat × Value)} (hdg : decode cc pc = .ok (.istore i, 2)) (hn : i < nL) (hl2 : (i, Value.int a) :: lv.filter (fun q => !(q.1 == i) && !(q.1 + 1 == i && q.2.category == 2)) = lv') (kk : V p l e R s m args below meth c P D Q nL n x f k z (pc + 2) lv' st) : V p l e R s m args below meth c P D Q nL n x f k z pc lv (.int a :: st) := fun H locs ls hP hz hS hl => lv_istore C.1 C.2.1 hdg hl hn hl2 (fun ls' hl' => kk H locs ls' hP hz hS hl')
theorem v_astore_n (C : Cx p l s m args meth c P D cc nL ret own) {u : Fin 4} {i : Nat} {a : Nat} {lv' : List (Nat × Value)} (hdg : decode cc pc = .ok (.astore_n u, 1)) (hi : (u : Nat) = i) (hn : i < nL) (hl2 : (i, Value.ref a) :: lv.filter (fun q => !(q.1 == i) && !(q.1 + 1 == i && q.2.category == 2)) = lv') (kk : V p l e R s m args below meth c P D Q nL n x f k z (pc + 1) lv' st) : V p l e R s m args below meth c P D Q nL n x f k z pc lv (.ref a :: st) := fun H locs ls hP hz hS hl => lv_astore_n C.1 C.2.1 hdg hi hl hn hl2 (fun ls' hl' => kk H locs ls' hP hz hS hl')
theorem v_astore (C : Cx p l s m args meth c P D cc nL ret own) {i : Nat} {a : Nat} {lv' : List (Nat × Value)} (hdg : decode cc pc = .ok (.astore i, 2)) (hn : i < nL) (hl2 : (i, Value.ref a) :: lv.filter (fun q => !(q.1 == i) && !(q.1 + 1 == i && q.2.category == 2)) = lv') (kk : V p l e R s m args below meth c P D Q nL n x f k z (pc + 2) lv' st) : V p l e R s m args below meth c P D Q nL n x f k z pc lv (.ref a :: st) := fun H locs ls hP hz hS hl => lv_astore C.1 C.2.1 hdg hl hn hl2 (fun ls' hl' => kk H locs ls' hP hz hS hl')
theorem v_lstore_n (C : Cx p l s m args meth c P D cc nL ret own) {u : Fin 4} {i : Nat} {a : Int64} {lv' : List (Nat × Value)} (hdg : decode cc pc = .ok (.lstore_n u, 1)) (hi : (u : Nat) = i) (hn : i + 1 < nL) (hl2 : (i, Value.long a) :: lv.filter (fun q => !(q.1 == i) && (!(q.1 == i + 1) && !(q.1 + 1 == i && q.2.category == 2))) = lv') (kk : V p l e R s m args below meth c P D Q nL n x f k z (pc + 1) lv' st) : V p l e R s m args below meth c P D Q nL n x f k z pc lv (.long a :: st) := fun H locs ls hP hz hS hl => lv_lstore_n C.1 C.2.1 hdg hi hl hn hl2 (fun ls' hl' => kk H locs ls' hP hz hS hl')
theorem v_dstore (C : Cx p l s m args meth c P D cc nL ret own) {i : Nat} {a : UInt64} {lv' : List (Nat × Value)} (hdg : decode cc pc = .ok (.dstore i, 2)) (hn : i + 1 < nL) (hl2 : (i, Value.double a) :: lv.filter (fun q => !(q.1 == i) && (!(q.1 == i + 1) && !(q.1 + 1 == i && q.2.category == 2))) = lv') (kk : V p l e R s m args below meth c P D Q nL n x f k z (pc + 2) lv' st) : V p l e R s m args below meth c P D Q nL n x f k z pc lv (.double a :: st) := fun H locs ls hP hz hS hl => lv_dstore C.1 C.2.1 hdg hl hn hl2 (fun ls' hl' => kk H locs ls' hP hz hS hl')
theorem v_iinc (C : Cx p l s m args meth c P D cc nL ret own) {i : Nat} {d : Int} {a b : Int32} {lv' : List (Nat × Value)} (q : Nat) (hdg : decode cc pc = .ok (.iinc i d, 3)) (hq : lv[q]? = some (i, .int a)) (hv : a + Int32.ofInt d = b) (hn : i < nL) (hl2 : (i, Value.int b) :: lv.filter (fun q => !(q.1 == i) && !(q.1 + 1 == i && q.2.category == 2)) = lv') (kk : V p l e R s m args below meth c P D Q nL n x f k z (pc + 3) lv' st) : V p l e R s m args below meth c P D Q nL n x f k z pc lv st := fun H locs ls hP hz hS hl => lv_iinc C.1 C.2.1 hdg hl hq hv hn hl2 (fun ls' hl' => kk H locs ls' hP hz hS hl')
theorem v_iadd (C : Cx p l s m args meth c P D cc nL ret own) {a b : Int32} (hdg : decode cc pc = .ok (.iadd, 1))  (kk : V p l e R s m args below meth c P D Q nL n x f k z (pc + 1) lv (.int (a + b) :: st)) : V p l e R s m args below meth c P D Q nL n x f k z pc lv (.int b :: .int a :: st) := fun H locs ls hP hz hS hl => lv_iadd C.1 C.2.1 hdg (kk H locs ls hP hz hS hl)
theorem v_isub (C : Cx p l s m args meth c P D cc nL ret own) {a b : Int32} (hdg : decode cc pc = .ok (.isub, 1))  (kk : V p l e R s m args below meth c P D Q nL n x f k z (pc + 1) lv (.int (a - b) :: st)) : V p l e R s m args below meth c P D Q nL n x f k z pc lv (.int b :: .int a :: st) := fun H locs ls hP hz hS hl => lv_isub C.1 C.2.1 hdg (kk H locs ls hP hz hS hl)
theorem v_imul (C : Cx p l s m args meth c P D cc nL ret own) {a b : Int32} (hdg : decode cc pc = .ok (.imul, 1))  (kk : V p l e R s m args below meth c P D Q nL n x f k z (pc + 1) lv (.int (a * b) :: st)) : V p l e R s m args below meth c P D Q nL n x f k z pc lv (.int b :: .int a :: st) := fun H locs ls hP hz hS hl => lv_imul C.1 C.2.1 hdg (kk H locs ls hP hz hS hl)
theorem v_iand (C : Cx p l s m args meth c P D cc nL ret own) {a b : Int32} (hdg : decode cc pc = .ok (.iand, 1))  (kk : V p l e R s m args below meth c P D Q nL n x f k z (pc + 1) lv (.int (a &&& b) :: st)) : V p l e R s m args below meth c P D Q nL n x f k z pc lv (.int b :: .int a :: st) := fun H locs ls hP hz hS hl => lv_iand C.1 C.2.1 hdg (kk H locs ls hP hz hS hl)
theorem v_idiv (C : Cx p l s m args meth c P D cc nL ret own) {a b : Int32} (hdg : decode cc pc = .ok (.idiv, 1)) (hne : ¬ b = 0) (kk : V p l e R s m args below meth c P D Q nL n x f k z (pc + 1) lv (.int (a / b) :: st)) : V p l e R s m args below meth c P D Q nL n x f k z pc lv (.int b :: .int a :: st) := fun H locs ls hP hz hS hl => lv_idiv C.1 C.2.1 hdg hne (kk H locs ls hP hz hS hl)
theorem v_irem (C : Cx p l s m args meth c P D cc nL ret own) {a b : Int32} (hdg : decode cc pc = .ok (.irem, 1)) (hne : ¬ b = 0) (kk : V p l e R s m args below meth c P D Q nL n x f k z (pc + 1) lv (.int (a - a / b * b) :: st)) : V p l e R s m args below meth c P D Q nL n x f k z pc lv (.int b :: .int a :: st) := fun H locs ls hP hz hS hl => lv_irem C.1 C.2.1 hdg hne (kk H locs ls hP hz hS hl)
theorem v_ladd (C : Cx p l s m args meth c P D cc nL ret own) {a b : Int64} (hdg : decode cc pc = .ok (.ladd, 1))  (kk : V p l e R s m args below meth c P D Q nL n x f k z (pc + 1) lv (.long (a + b) :: st)) : V p l e R s m args below meth c P D Q nL n x f k z pc lv (.long b :: .long a :: st) := fun H locs ls hP hz hS hl => lv_ladd C.1 C.2.1 hdg (kk H locs ls hP hz hS hl)
theorem v_lmul (C : Cx p l s m args meth c P D cc nL ret own) {a b : Int64} (hdg : decode cc pc = .ok (.lmul, 1))  (kk : V p l e R s m args below meth c P D Q nL n x f k z (pc + 1) lv (.long (a * b) :: st)) : V p l e R s m args below meth c P D Q nL n x f k z pc lv (.long b :: .long a :: st) := fun H locs ls hP hz hS hl => lv_lmul C.1 C.2.1 hdg (kk H locs ls hP hz hS hl)
theorem v_i2l (C : Cx p l s m args meth c P D cc nL ret own) {a : Int32} (hdg : decode cc pc = .ok (.i2l, 1))  (kk : V p l e R s m args below meth c P D Q nL n x f k z (pc + 1) lv (.long a.toInt64 :: st)) : V p l e R s m args below meth c P D Q nL n x f k z pc lv (.int a :: st) := fun H locs ls hP hz hS hl => lv_i2l C.1 C.2.1 hdg rfl (kk H locs ls hP hz hS hl)
theorem v_lcmp (C : Cx p l s m args meth c P D cc nL ret own) {a b : Int64} (hdg : decode cc pc = .ok (.lcmp, 1))  (kk : V p l e R s m args below meth c P D Q nL n x f k z (pc + 1) lv (.int (lg_cmp a b) :: st)) : V p l e R s m args below meth c P D Q nL n x f k z pc lv (.long b :: .long a :: st) := fun H locs ls hP hz hS hl => W.lcmp C.1 C.2.1 hdg (kk H locs ls hP hz hS hl)
theorem v_dup (C : Cx p l s m args meth c P D cc nL ret own) {a : Value} (hdg : decode cc pc = .ok (.dup, 1)) (ha : a.category = 1) (kk : V p l e R s m args below meth c P D Q nL n x f k z (pc + 1) lv (a :: a :: st)) : V p l e R s m args below meth c P D Q nL n x f k z pc lv (a :: st) := fun H locs ls hP hz hS hl => lv_dup C.1 C.2.1 hdg ha (kk H locs ls hP hz hS hl)
theorem v_dup2 (C : Cx p l s m args meth c P D cc nL ret own) {a b : Value} (hdg : decode cc pc = .ok (.dup2, 1)) (ha : a.category = 1) (hb : b.category = 1) (kk : V p l e R s m args below meth c P D Q nL n x f k z (pc + 1) lv (a :: b :: a :: b :: st)) : V p l e R s m args below meth c P D Q nL n x f k z pc lv (a :: b :: st) := fun H locs ls hP hz hS hl => lv_dup2_11 C.1 C.2.1 hdg ha hb (kk H locs ls hP hz hS hl)
theorem v_pop (C : Cx p l s m args meth c P D cc nL ret own) {a : Value} (hdg : decode cc pc = .ok (.pop, 1)) (ha : a.category = 1) (kk : V p l e R s m args below meth c P D Q nL n x f k z (pc + 1) lv st) : V p l e R s m args below meth c P D Q nL n x f k z pc lv (a :: st) := fun H locs ls hP hz hS hl => lv_pop C.1 C.2.1 hdg ha (kk H locs ls hP hz hS hl)
theorem v_if_eq (C : Cx p l s m args meth c P D cc nL ret own) {a : Int32} {off : Int} {tgt : Nat} (hdg : decode cc pc = .ok (.ifCond .eq off, 3)) (ht : (pc : Int) + off = (tgt : Int)) (kt : (a = 0) → V p l e R s m args below meth c P D Q nL n x f k z tgt lv st) (kf : ¬ (a = 0) → V p l e R s m args below meth c P D Q nL n x f k z (pc + 3) lv st) : V p l e R s m args below meth c P D Q nL n x f k z pc lv (.int a :: st) := fun H locs ls hP hz hS hl => lv_if_eq C.1 C.2.1 hdg ht (fun h => kt h H locs ls hP hz hS hl) (fun h => kf h H locs ls hP hz hS hl)
theorem v_icmp_eq (C : Cx p l s m args meth c P D cc nL ret own) {a b : Int32} {off : Int} {tgt : Nat} (hdg : decode cc pc = .ok (.if_icmp .eq off, 3)) (ht : (pc : Int) + off = (tgt : Int)) (kt : (a = b) → V p l e R s m args below meth c P D Q nL n x f k z tgt lv st) (kf : ¬ (a = b) → V p l e R s m args below meth c P D Q nL n x f k z (pc + 3) lv st) : V p l e R s m args below meth c P D Q nL n x f k z pc lv (.int b :: .int a :: st) := fun H locs ls hP hz hS hl => lv_icmp_eq C.1 C.2.1 hdg ht (fun h => kt h H locs ls hP hz hS hl) (fun h => kf h H locs ls hP hz hS hl)
theorem v_if_ne (C : Cx p l s m args meth c P D cc nL ret own) {a : Int32} {off : Int} {tgt : Nat} (hdg : decode cc pc = .ok (.ifCond .ne off, 3)) (ht : (pc : Int) + off = (tgt : Int)) (kt : (¬ a = 0) → V p l e R s m args below meth c P D Q nL n x f k z tgt lv st) (kf : a = 0 → V p l e R s m args below meth c P D Q nL n x f k z (pc + 3) lv st) : V p l e R s m args below meth c P D Q nL n x f k z pc lv (.int a :: st) := fun H locs ls hP hz hS hl => lv_if_ne C.1 C.2.1 hdg ht (fun h => kt h H locs ls hP hz hS hl) (fun h => kf h H locs ls hP hz hS hl)
theorem v_icmp_ne (C : Cx p l s m args meth c P D cc nL ret own) {a b : Int32} {off : Int} {tgt : Nat} (hdg : decode cc pc = .ok (.if_icmp .ne off, 3)) (ht : (pc : Int) + off = (tgt : Int)) (kt : (¬ a = b) → V p l e R s m args below meth c P D Q nL n x f k z tgt lv st) (kf : a = b → V p l e R s m args below meth c P D Q nL n x f k z (pc + 3) lv st) : V p l e R s m args below meth c P D Q nL n x f k z pc lv (.int b :: .int a :: st) := fun H locs ls hP hz hS hl => lv_icmp_ne C.1 C.2.1 hdg ht (fun h => kt h H locs ls hP hz hS hl) (fun h => kf h H locs ls hP hz hS hl)
theorem v_if_lt (C : Cx p l s m args meth c P D cc nL ret own) {a : Int32} {off : Int} {tgt : Nat} (hdg : decode cc pc = .ok (.ifCond .lt off, 3)) (ht : (pc : Int) + off = (tgt : Int)) (kt : (a < 0) → V p l e R s m args below meth c P D Q nL n x f k z tgt lv st) (kf : ¬ (a < 0) → V p l e R s m args below meth c P D Q nL n x f k z (pc + 3) lv st) : V p l e R s m args below meth c P D Q nL n x f k z pc lv (.int a :: st) := fun H locs ls hP hz hS hl => lv_if_lt C.1 C.2.1 hdg ht (fun h => kt h H locs ls hP hz hS hl) (fun h => kf h H locs ls hP hz hS hl)
theorem v_icmp_lt (C : Cx p l s m args meth c P D cc nL ret own) {a b : Int32} {off : Int} {tgt : Nat} (hdg : decode cc pc = .ok (.if_icmp .lt off, 3)) (ht : (pc : Int) + off = (tgt : Int)) (kt : (a < b) → V p l e R s m args below meth c P D Q nL n x f k z tgt lv st) (kf : ¬ (a < b) → V p l e R s m args below meth c P D Q nL n x f k z (pc + 3) lv st) : V p l e R s m args below meth c P D Q nL n x f k z pc lv (.int b :: .int a :: st) := fun H locs ls hP hz hS hl => lv_icmp_lt C.1 C.2.1 hdg ht (fun h => kt h H locs ls hP hz hS hl) (fun h => kf h H locs ls hP hz hS hl)
theorem v_if_ge (C : Cx p l s m args meth c P D cc nL ret own) {a : Int32} {off : Int} {tgt : Nat} (hdg : decode cc pc = .ok (.ifCond .ge off, 3)) (ht : (pc : Int) + off = (tgt : Int)) (kt : (0 ≤ a) → V p l e R s m args below meth c P D Q nL n x f k z tgt lv st) (kf : ¬ (0 ≤ a) → V p l e R s m args below meth c P D Q nL n x f k z (pc + 3) lv st) : V p l e R s m args below meth c P D Q nL n x f k z pc lv (.int a :: st) := fun H locs ls hP hz hS hl => lv_if_ge C.1 C.2.1 hdg ht (fun h => kt h H locs ls hP hz hS hl) (fun h => kf h H locs ls hP hz hS hl)
theorem v_icmp_ge (C : Cx p l s m args meth c P D cc nL ret own) {a b : Int32} {off : Int} {tgt : Nat} (hdg : decode cc pc = .ok (.if_icmp .ge off, 3)) (ht : (pc : Int) + off = (tgt : Int)) (kt : (b ≤ a) → V p l e R s m args below meth c P D Q nL n x f k z tgt lv st) (kf : ¬ (b ≤ a) → V p l e R s m args below meth c P D Q nL n x f k z (pc + 3) lv st) : V p l e R s m args below meth c P D Q nL n x f k z pc lv (.int b :: .int a :: st) := fun H locs ls hP hz hS hl => lv_icmp_ge C.1 C.2.1 hdg ht (fun h => kt h H locs ls hP hz hS hl) (fun h => kf h H locs ls hP hz hS hl)
theorem v_if_gt (C : Cx p l s m args meth c P D cc nL ret own) {a : Int32} {off : Int} {tgt : Nat} (hdg : decode cc pc = .ok (.ifCond .gt off, 3)) (ht : (pc : Int) + off = (tgt : Int)) (kt : (0 < a) → V p l e R s m args below meth c P D Q nL n x f k z tgt lv st) (kf : ¬ (0 < a) → V p l e R s m args below meth c P D Q nL n x f k z (pc + 3) lv st) : V p l e R s m args below meth c P D Q nL n x f k z pc lv (.int a :: st) := fun H locs ls hP hz hS hl => lv_if_gt C.1 C.2.1 hdg ht (fun h => kt h H locs ls hP hz hS hl) (fun h => kf h H locs ls hP hz hS hl)
theorem v_icmp_gt (C : Cx p l s m args meth c P D cc nL ret own) {a b : Int32} {off : Int} {tgt : Nat} (hdg : decode cc pc = .ok (.if_icmp .gt off, 3)) (ht : (pc : Int) + off = (tgt : Int)) (kt : (b < a) → V p l e R s m args below meth c P D Q nL n x f k z tgt lv st) (kf : ¬ (b < a) → V p l e R s m args below meth c P D Q nL n x f k z (pc + 3) lv st) : V p l e R s m args below meth c P D Q nL n x f k z pc lv (.int b :: .int a :: st) := fun H locs ls hP hz hS hl => lv_icmp_gt C.1 C.2.1 hdg ht (fun h => kt h H locs ls hP hz hS hl) (fun h => kf h H locs ls hP hz hS hl)
theorem v_if_le (C : Cx p l s m args meth c P D cc nL ret own) {a : Int32} {off : Int} {tgt : Nat} (hdg : decode cc pc = .ok (.ifCond .le off, 3)) (ht : (pc : Int) + off = (tgt : Int)) (kt : (a ≤ 0) → V p l e R s m args below meth c P D Q nL n x f k z tgt lv st) (kf : ¬ (a ≤ 0) → V p l e R s m args below meth c P D Q nL n x f k z (pc + 3) lv st) : V p l e R s m args below meth c P D Q nL n x f k z pc lv (.int a :: st) := fun H locs ls hP hz hS hl => lv_if_le C.1 C.2.1 hdg ht (fun h => kt h H locs ls hP hz hS hl) (fun h => kf h H locs ls hP hz hS hl)
theorem v_icmp_le (C : Cx p l s m args meth c P D cc nL ret own) {a b : Int32} {off : Int} {tgt : Nat} (hdg : decode cc pc = .ok (.if_icmp .le off, 3)) (ht : (pc : Int) + off = (tgt : Int)) (kt : (a ≤ b) → V p l e R s m args below meth c P D Q nL n x f k z tgt lv st) (kf : ¬ (a ≤ b) → V p l e R s m args below meth c P D Q nL n x f k z (pc + 3) lv st) : V p l e R s m args below meth c P D Q nL n x f k z pc lv (.int b :: .int a :: st) := fun H locs ls hP hz hS hl => lv_icmp_le C.1 C.2.1 hdg ht (fun h => kt h H locs ls hP hz hS hl) (fun h => kf h H locs ls hP hz hS hl)
theorem v_goto (C : Cx p l s m args meth c P D cc nL ret own) {off : Int} {tgt : Nat} (hdg : decode cc pc = .ok (.goto off, 3)) (ht : (pc : Int) + off = (tgt : Int)) (kk : V p l e R s m args below meth c P D Q nL n x f k z tgt lv st) : V p l e R s m args below meth c P D Q nL n x f k z pc lv st := fun H locs ls hP hz hS hl => lv_goto C.1 C.2.1 hdg ht (kk H locs ls hP hz hS hl)
theorem v_tableOut (C : Cx p l s m args meth c P D cc nL ret own) {dflt lo hi : Int} {offs : Array Int} {len : Nat} {a : Int32} {tgt : Nat} (hdg : decode cc pc = .ok (.tableswitch dflt lo hi offs, len)) (h : a.toInt < lo ∨ hi < a.toInt) (ht : (pc : Int) + dflt = (tgt : Int)) (kk : V p l e R s m args below meth c P D Q nL n x f k z tgt lv st) : V p l e R s m args below meth c P D Q nL n x f k z pc lv (.int a :: st) := fun H locs ls hP hz hS hl => lv_tableOut C.1 C.2.1 hdg h ht (kk H locs ls hP hz hS hl)
theorem v_tableIn (C : Cx p l s m args meth c P D cc nL ret own) {dflt lo hi : Int} {offs : Array Int} {len : Nat} {a : Int32} {off : Int} {tgt : Nat} (hdg : decode cc pc = .ok (.tableswitch dflt lo hi offs, len)) (h1 : ¬ a.toInt < lo) (h2 : ¬ hi < a.toInt) (ho : offs[(a.toInt - lo).toNat]? = some off) (ht : (pc : Int) + off = (tgt : Int)) (kk : V p l e R s m args below meth c P D Q nL n x f k z tgt lv st) : V p l e R s m args below meth c P D Q nL n x f k z pc lv (.int a :: st) := fun H locs ls hP hz hS hl => lv_tableIn C.1 C.2.1 hdg h1 h2 ho ht (kk H locs ls hP hz hS hl)
theorem v_lookup (C : Cx p l s m args meth c P D cc nL ret own) {dflt : Int} {ps : Array (Int × Int)} {len : Nat} {a : Int32} {off : Int} {tgt : Nat} (hdg : decode cc pc = .ok (.lookupswitch dflt ps, len)) (hp : (ps.toList.zip (ps.toList.drop 1)).all (fun (a, next) => a.1 < next.1) = true) (ho : Op.lookupswitch.offset ps.toList dflt a.toInt = off) (ht : (pc : Int) + off = (tgt : Int)) (kk : V p l e R s m args below meth c P D Q nL n x f k z tgt lv st) : V p l e R s m args below meth c P D Q nL n x f k z pc lv (.int a :: st) := fun H locs ls hP hz hS hl => lv_lookup C.1 C.2.1 hdg hp ho ht (kk H locs ls hP hz hS hl)
theorem v_lv {lv' : List (Nat × Value)} (ks : List Nat) (h : lv_pick lv ks = lv') (kk : V p l e R s m args below meth c P D Q nL n x f k z pc lv' st) : V p l e R s m args below meth c P D Q nL n x f k z pc lv st := fun H locs ls hP hz hS hl => kk H locs ls hP hz hS (lv_sub hl ks h)
theorem v_top {a : Int32} (kk : ∀ b : Int32, b = a → V p l e R s m args below meth c P D Q nL n x f k z pc lv (.int b :: st)) : V p l e R s m args below meth c P D Q nL n x f k z pc lv (.int a :: st) := kk a rfl
theorem v_eq {f' : Nat → va_E} (h : f = f') (kk : V p l e R s m args below meth c P D Q nL n x f' k z pc lv st) : V p l e R s m args below meth c P D Q nL n x f k z pc lv st := by rw [h]; exact kk
theorem v_widen {k' z' : Nat} (h1 : k ≤ k') (h2 : z ≤ z') (kk : V p l e R s m args below meth c P D Q nL n x f k' z' pc lv st) : V p l e R s m args below meth c P D Q nL n x f k z pc lv st := fun H locs ls hP hz hS hl => W.widen h1 h2 (kk H locs ls hP hz hS hl)
theorem v_min (C : Cx p l s m args meth c P D cc nL ret own) {index : Nat} {a b : Int32} (hdg : decode cc pc = .ok (.invokestatic index, 3)) (hlink : Cond.methodLink own index Lib.Math.min.name ∈ gtb) (hstat : Cond.static Lib.Math.min.name ∈ gtb) (hini : Cond.initialized "java/lang/Math" ∈ gtb) (hcode : Cond.code Lib.Math.min.name Lib.Math.min.code 2 (some .int) ∈ gtb) (hR : 1 ≤ R.frames) (hlo : (st.map fun v => v.category).sum + 13 ≤ R.locals) (hc : k ≤ R.cells) (hs : z ≤ R.slots) (kk : V p l e R s m args below meth c P D Q nL n x f k z (pc + 3) lv (.int (if b < a then b else a) :: st)) : V p l e R s m args below meth c P D Q nL n x f k z pc lv (.int b :: .int a :: st) := by
  intro H locs ls hP hz hS hl
  obtain ⟨hx, hb, hml, hown, hts, -⟩ := C
  exact va_mmin hx hb (hml.trans hl.1.symm) hown (hts _ hlink) (hts _ hstat) (hts _ hini) (hts _ hcode) hR hlo hc hs hdg (kk H locs ls hP hz hS hl)
theorem v_max (C : Cx p l s m args meth c P D cc nL ret own) {index : Nat} {a b : Int32} (hdg : decode cc pc = .ok (.invokestatic index, 3)) (hlink : Cond.methodLink own index Lib.Math.max.name ∈ gtb) (hstat : Cond.static Lib.Math.max.name ∈ gtb) (hini : Cond.initialized "java/lang/Math" ∈ gtb) (hcode : Cond.code Lib.Math.max.name Lib.Math.max.code 2 (some .int) ∈ gtb) (hR : 1 ≤ R.frames) (hlo : (st.map fun v => v.category).sum + 13 ≤ R.locals) (hc : k ≤ R.cells) (hs : z ≤ R.slots) (kk : V p l e R s m args below meth c P D Q nL n x f k z (pc + 3) lv (.int (if a < b then b else a) :: st)) : V p l e R s m args below meth c P D Q nL n x f k z pc lv (.int b :: .int a :: st) := by
  intro H locs ls hP hz hS hl
  obtain ⟨hx, hb, hml, hown, hts, -⟩ := C
  exact va_mmax hx hb (hml.trans hl.1.symm) hown (hts _ hlink) (hts _ hstat) (hts _ hini) (hts _ hcode) hR hlo hc hs hdg (kk H locs ls hP hz hS hl)
theorem v_ldc2 (C : Cx p l s m args meth c P D cc nL ret own) {index : Nat} {v : Int64} (hdg : decode cc pc = .ok (.ldc2_w index, 3)) (hk : Cond.constantLong own index v ∈ gtb) (kk : V p l e R s m args below meth c P D Q nL n x f k z (pc + 3) lv (.long v :: st)) : V p l e R s m args below meth c P D Q nL n x f k z pc lv st := fun H locs ls hP hz hS hl => lv_ldc2 C.1 C.2.1 C.2.2.2.1 (C.2.2.2.2.1 _ hk) hdg (kk H locs ls hP hz hS hl)
end VRows
end
section
/-! ROWS THAT READ AND WRITE CELLS -/
section VHeap
variable {p : Program} {l : Launch} {e : Env} {R : Room} {s : State} {m : MethodId} {args : Array Value} {below : List Frame} {meth : Method} {c : Code} {P : L5} {D : va_G} {Q : State → Prop} {nL n : Nat} {x : Prop} {f : Nat → va_E} {k z pc : Nat} {lv : List (Nat × Value)} {st : List Value} {cc : ByteArray} {ret : Option FieldType} {own : String}
variable {N F T : Nat → Nat → Int32} {K : Nat → Int32} {A : Nat → Nat → Int32} {w : Int64}
theorem v_get (C : Cx p l s m args meth c P D cc nL ret own) (q : Nat × Nat) (hq : kd (ik q) = q ∧ ik q < 97) {ci : Nat} {r : vw_C} {fs : List Value} (hc : vwCl[ci]? = some r) (hfs : cK P N F T K A w q = .inr (ci, fs)) (hin : ∀ w ∈ u_ws r.1 r.2.1 r.2.2, w ∈ gtb) (kf : Nat) (hk : kf < r.2.2) {index : Nat} (hlink : Cond.fieldLink own index (r.2.1 kf).1 (r.2.1 kf).2.1 (r.2.1 kf).2.2.1 ∈ gtb) {u : Value} (hv : fs[kf]? = some u) (hdg : decode cc pc = .ok (.getfield index, 3)) (kk : V p l e R s m args below meth c P D Q nL 97 False (cw P N F T K A w) k z (pc + 3) lv (u :: st)) : V p l e R s m args below meth c P D Q nL 97 False (cw P N F T K A w) k z pc lv (.ref (P.1 + ik q) :: st) := by
  intro H locs ls hP hz hS hl
  obtain ⟨hx, hb, hml, hown, hts, hr, hlk, hK, ho, hST⟩ := C
  exact va_get hx hb hts hin hown hK hP (ik q) (by rw [cw_get q hq.1 hq.2, hfs]) hc kf hk (hts _ hlink) (fun _ h9 => h9) hv hdg (kk H locs ls hP hz hS hl)
theorem v_put (C : Cx p l s m args meth c P D cc nL ret own) {N' F' T' : Nat → Nat → Int32} {K' : Nat → Int32} (q : Nat × Nat) (hq : kd (ik q) = q ∧ ik q < 97) {ci : Nat} {r : vw_C} {fs : List Value} (hc : vwCl[ci]? = some r) (hfs : cK P N F T K A w q = .inr (ci, fs)) (hin : ∀ w ∈ u_ws r.1 r.2.1 r.2.2, w ∈ gtb) (ty0 : Nat → FieldType) (hty : ∀ k, k < r.2.2 → parseFieldDescriptor (r.2.1 k).2.2.1 = some (ty0 k)) (hnm : ∀ a, a < r.2.2 → ∀ b, b < r.2.2 → a ≠ b → (r.2.1 a).2.1 ≠ (r.2.1 b).2.1) (kf : Nat) (hk : kf < r.2.2) (hti : ty0 kf = .int) (hfin : (r.2.1 kf).2.2.2 = false) (hlen : kf < fs.length) {index : Nat} (hlink : Cond.fieldLink own index (r.2.1 kf).1 (r.2.1 kf).2.1 (r.2.1 kf).2.2.1 ∈ gtb) {a : Int32} (hdg : decode cc pc = .ok (.putfield index, 3)) (he : cK P N' F' T' K' A w q = .inr (ci, fs.set kf (.int a))) (ho9 : ∀ q', q' ≠ q → (∃ a, a < 97 ∧ kd a = q') → cK P N' F' T' K' A w q' = cK P N F T K A w q') (kk : V p l e R s m args below meth c P D Q nL 97 False (cw P N' F' T' K' A w) k z (pc + 3) lv st) : V p l e R s m args below meth c P D Q nL 97 False (cw P N F T K A w) k z pc lv (.int a :: .ref (P.1 + ik q) :: st) := by
  intro H locs ls hP hz hS hl
  obtain ⟨hx, hb, hml, hown, hts, hr, hlk, hK, ho, hST⟩ := C
  refine va_put (ty := .int) hx hb hts hin ty0 hty hnm hown hK hP (wl_D _ _ _) hS (ik q) (by rw [cw_get q hq.1 hq.2, hfs]) hc kf hk (hts _ hlink) (fun _ h9 => h9) hfin (by rw [hty kf hk, hti]) (vp_nar_int a) rfl hlen hdg (fun H1 locs1 hP1 _ hS1 => ?_)
  rw [cw_set (P := P) (N := N) (F := F) (T := T) (K := K) (A := A) (w := w) (N' := N') (F' := F') (T' := T') (K' := K') (A' := A) (w' := w) q hq.1 hq.2 he ho9] at hP1
  exact kk H1 locs1 ls hP1 (fun h9 => h9.elim) hS1 hl
theorem v_getN (C : Cx p l s m args meth c P D cc nL ret own) (q : Nat × Nat) (hq : kd (ik q) = q ∧ ik q < 97) {ci : Nat} {r : vw_C} {fs : List Value} (hc : vwCl[ci]? = some r) (hfs : cK P N F T K A w q = .inr (ci, fs)) (hin : ∀ w ∈ u_ws r.1 r.2.1 r.2.2, w ∈ gtb) (kf : Nat) (hk : kf < r.2.2) {index : Nat} (hlink : (own, index, (r.2.1 kf).1, (r.2.1 kf).2.1, (r.2.1 kf).2.2.1) ∈ nwF) {u : Value} (hv : fs[kf]? = some u) (hdg : decode cc pc = .ok (.getfield index, 3)) (kk : V p l e R s m args below meth c P D Q nL 97 False (cw P N F T K A w) k z (pc + 3) lv (u :: st)) : V p l e R s m args below meth c P D Q nL 97 False (cw P N F T K A w) k z pc lv (.ref (P.1 + ik q) :: st) := by
  intro H locs ls hP hz hS hl
  obtain ⟨hx, hb, hml, hown, hts, hr, hlk, hK, ho, hST⟩ := C
  exact va_getN hx hb hts hin hown hK hP (ik q) (by rw [cw_get q hq.1 hq.2, hfs]) hc kf hk (va_Nw.use rfl (hST.2.2.2.1 _ hlink)) (fun _ h9 => h9) hv hdg (kk H locs ls hP hz hS hl)
theorem v_putN (C : Cx p l s m args meth c P D cc nL ret own) {N' F' T' : Nat → Nat → Int32} {K' : Nat → Int32} (q : Nat × Nat) (hq : kd (ik q) = q ∧ ik q < 97) {ci : Nat} {r : vw_C} {fs : List Value} (hc : vwCl[ci]? = some r) (hfs : cK P N F T K A w q = .inr (ci, fs)) (hin : ∀ w ∈ u_ws r.1 r.2.1 r.2.2, w ∈ gtb) (ty0 : Nat → FieldType) (hty : ∀ k, k < r.2.2 → parseFieldDescriptor (r.2.1 k).2.2.1 = some (ty0 k)) (hnm : ∀ a, a < r.2.2 → ∀ b, b < r.2.2 → a ≠ b → (r.2.1 a).2.1 ≠ (r.2.1 b).2.1) (kf : Nat) (hk : kf < r.2.2) (hti : ty0 kf = .int) (hfin : (r.2.1 kf).2.2.2 = false) (hlen : kf < fs.length) {index : Nat} (hlink : (own, index, (r.2.1 kf).1, (r.2.1 kf).2.1, (r.2.1 kf).2.2.1) ∈ nwF) {a : Int32} (hdg : decode cc pc = .ok (.putfield index, 3)) (he : cK P N' F' T' K' A w q = .inr (ci, fs.set kf (.int a))) (ho9 : ∀ q', q' ≠ q → (∃ a, a < 97 ∧ kd a = q') → cK P N' F' T' K' A w q' = cK P N F T K A w q') (kk : V p l e R s m args below meth c P D Q nL 97 False (cw P N' F' T' K' A w) k z (pc + 3) lv st) : V p l e R s m args below meth c P D Q nL 97 False (cw P N F T K A w) k z pc lv (.int a :: .ref (P.1 + ik q) :: st) := by
  intro H locs ls hP hz hS hl
  obtain ⟨hx, hb, hml, hown, hts, hr, hlk, hK, ho, hST⟩ := C
  refine va_putN (ty := .int) hx hb hts hin ty0 hty hnm hown hK hP (wl_D _ _ _) hS (ik q) (by rw [cw_get q hq.1 hq.2, hfs]) hc kf hk (va_Nw.use rfl (hST.2.2.2.1 _ hlink)) (fun _ h9 => h9) hfin (by rw [hty kf hk, hti]) (vp_nar_int a) rfl hlen hdg (fun H1 locs1 hP1 _ hS1 => ?_)
  rw [cw_set (P := P) (N := N) (F := F) (T := T) (K := K) (A := A) (w := w) (N' := N') (F' := F') (T' := T') (K' := K') (A' := A) (w' := w) q hq.1 hq.2 he ho9] at hP1
  exact kk H1 locs1 ls hP1 (fun h9 => h9.elim) hS1 hl
theorem v_ldG (C : Cx p l s m args meth c P D cc nL ret own) (q : Nat × Nat) (hq : kd (ik q) = q ∧ ik q < 97) {len : Nat} {g : Nat → Int32} (hg : cK P N F T K A w q = .inl (P.2.1, len, .inl g)) {i a : Int32} (hin : vp_in i len) (ha : g i.toNatClampNeg = a) (hdg : decode cc pc = .ok (.iaload, 1)) (kk : V p l e R s m args below meth c P D Q nL 97 False (cw P N F T K A w) k z (pc + 1) lv (.int a :: st)) : V p l e R s m args below meth c P D Q nL 97 False (cw P N F T K A w) k z pc lv (.int i :: .ref (P.1 + ik q) :: st) := by
  intro H locs ls hP hz hS hl
  obtain ⟨hx, hb, hml, hown, hts, hr, hlk, hK, ho, hST⟩ := C
  refine va_iald hx hb hK hP (ik q) 0 (by rw [cw_get q hq.1 hq.2, hg]) rfl hin hdg ?_
  rw [ha]
  exact kk H locs ls hP hz hS hl
theorem v_lenG (C : Cx p l s m args meth c P D cc nL ret own) (q : Nat × Nat) (hq : kd (ik q) = q ∧ ik q < 97) {len : Nat} {g : Nat → Int32} (hg : cK P N F T K A w q = .inl (P.2.1, len, .inl g)) {a : Int32} (ha : Int32.ofNat len = a) (hdg : decode cc pc = .ok (.arraylength, 1)) (kk : V p l e R s m args below meth c P D Q nL 97 False (cw P N F T K A w) k z (pc + 1) lv (.int a :: st)) : V p l e R s m args below meth c P D Q nL 97 False (cw P N F T K A w) k z pc lv (.ref (P.1 + ik q) :: st) := by
  intro H locs ls hP hz hS hl
  obtain ⟨hx, hb, hml, hown, hts, hr, hlk, hK, ho, hST⟩ := C
  exact va_alen hx hb hK hP (ik q) 0 (by rw [cw_get q hq.1 hq.2, hg]) rfl ha hdg (kk H locs ls hP hz hS hl)
theorem v_stG (C : Cx p l s m args meth c P D cc nL ret own) {N' : Nat → Nat → Int32} {A' : Nat → Nat → Int32} (q : Nat × Nat) (hq : kd (ik q) = q ∧ ik q < 97) {len : Nat} {g : Nat → Int32} (hg : cK P N F T K A w q = .inl (P.2.1, len, .inl g)) {i a : Int32} (hin : vp_in i len) (hdg : decode cc pc = .ok (.iastore, 1)) (he : cK P N' F T K A' w q = .inl (P.2.1, len, .inl (upd g i.toNatClampNeg a))) (ho9 : ∀ q', q' ≠ q → (∃ a, a < 97 ∧ kd a = q') → cK P N' F T K A' w q' = cK P N F T K A w q') (kk : V p l e R s m args below meth c P D Q nL 97 False (cw P N' F T K A' w) k z (pc + 1) lv st) : V p l e R s m args below meth c P D Q nL 97 False (cw P N F T K A w) k z pc lv (.int a :: .int i :: .ref (P.1 + ik q) :: st) := by
  intro H locs ls hP hz hS hl
  obtain ⟨hx, hb, hml, hown, hts, hr, hlk, hK, ho, hST⟩ := C
  refine va_iast hx hb hK hP (wl_D _ _ _) hS (ik q) 0 (by rw [cw_get q hq.1 hq.2, hg]) rfl hin hdg (fun H1 locs1 hP1 _ hS1 => ?_)
  rw [cw_set (P := P) (N := N) (F := F) (T := T) (K := K) (A := A) (w := w) (N' := N') (F' := F) (T' := T) (K' := K) (A' := A') (w' := w) q hq.1 hq.2 he ho9] at hP1
  exact kk H1 locs1 ls hP1 (fun h9 => h9.elim) hS1 hl
theorem v_aaN (C : Cx p l s m args meth c P D cc nL ret own) {t : Nat} (ht : t < 2) {i : Int32} (hin : vp_in i 12) (hdg : decode cc pc = .ok (.aaload, 1)) (kk : V p l e R s m args below meth c P D Q nL 97 False (cw P N F T K A w) k z (pc + 1) lv (.ref (rN P (12 * t + i.toNatClampNeg)) :: st)) : V p l e R s m args below meth c P D Q nL 97 False (cw P N F T K A w) k z pc lv (.int i :: .ref (rNA P t) :: st) := by
  intro H locs ls hP hz hS hl
  obtain ⟨hx, hb, hml, hown, hts, hr, hlk, hK, ho, hST⟩ := C
  exact va_aldq hx hb hK hP (ik (2, t)) 1 (cw_get (2, t) (kdNA t ht).1 (kdNA t ht).2) rfl hin hdg (kk H locs ls hP hz hS hl)
theorem v_aaF (C : Cx p l s m args meth c P D cc nL ret own) {t : Nat} (ht : t < 2) {i : Int32} (hin : vp_in i 4) (hdg : decode cc pc = .ok (.aaload, 1)) (kk : V p l e R s m args below meth c P D Q nL 97 False (cw P N F T K A w) k z (pc + 1) lv (.ref (rF P (4 * t + i.toNatClampNeg)) :: st)) : V p l e R s m args below meth c P D Q nL 97 False (cw P N F T K A w) k z pc lv (.int i :: .ref (rFA P t) :: st) := by
  intro H locs ls hP hz hS hl
  obtain ⟨hx, hb, hml, hown, hts, hr, hlk, hK, ho, hST⟩ := C
  exact va_aldq hx hb hK hP (ik (6, t)) 2 (cw_get (6, t) (kdFA t ht).1 (kdFA t ht).2) rfl hin hdg (kk H locs ls hP hz hS hl)
theorem v_gS (C : Cx p l s m args meth c P D cc nL ret own) (b : Nat) {q : String × String × (Nat → Int32)} (hq : stQ[b]? = some q) {index : Nat} (hlink : Cond.fieldLink own index q.1 q.2.1 "[I" ∈ gtb) (hdg : decode cc pc = .ok (.getstatic index, 3)) (kk : V p l e R s m args below meth c P D Q nL n x f k z (pc + 3) lv (.ref (rS P b) :: st)) : V p l e R s m args below meth c P D Q nL n x f k z pc lv st := by
  intro H locs ls hP hz hS hl
  obtain ⟨hx, hb, hml, hown, hts, hr, hlk, hK, ho, hST⟩ := C
  exact va_gets hx hb (hST.1 b q hq).1 hS hown (hts _ hlink) (fun _ h9 => h9) hdg (kk H locs ls hP hz hS hl)
theorem v_gSN (C : Cx p l s m args meth c P D cc nL ret own) (b : Nat) {q : String × String × (Nat → Int32)} (hq : stQ[b]? = some q) {index : Nat} (hlink : (own, index, q.1, q.2.1, "[I") ∈ nwF) (hdg : decode cc pc = .ok (.getstatic index, 3)) (kk : V p l e R s m args below meth c P D Q nL n x f k z (pc + 3) lv (.ref (rS P b) :: st)) : V p l e R s m args below meth c P D Q nL n x f k z pc lv st := by
  intro H locs ls hP hz hS hl
  obtain ⟨hx, hb, hml, hown, hts, hr, hlk, hK, ho, hST⟩ := C
  exact va_getsN hx hb (hST.1 b q hq).1 hS hown (va_Nw.use rfl (hST.2.2.2.1 _ hlink)) (fun _ h9 => h9) hdg (kk H locs ls hP hz hS hl)
theorem v_ldS (C : Cx p l s m args meth c P D cc nL ret own) (b : Nat) {q : String × String × (Nat → Int32)} (hq : stQ[b]? = some q) {i : Int32} (hin : vp_in i 4) (hdg : decode cc pc = .ok (.iaload, 1)) (kk : V p l e R s m args below meth c P D Q nL n x f k z (pc + 1) lv (.int (q.2.2 i.toNatClampNeg) :: st)) : V p l e R s m args below meth c P D Q nL n x f k z pc lv (.int i :: .ref (rS P b) :: st) := by
  intro H locs ls hP hz hS hl
  obtain ⟨hx, hb, hml, hown, hts, hr, hlk, hK, ho, hST⟩ := C
  exact va_ti hx hb (hST.1 b q hq).2 hS hin rfl hdg (kk H locs ls hP hz hS hl)
theorem cK_frN {N1 N2 : Nat → Nat → Int32} {j : Nat} (h : ∀ i, i ≠ j → N1 i = N2 i) {q' : Nat × Nat} (h3 : q' ≠ (3, j) ∨ ∀ t, t < 12 → N1 j t = N2 j t) (h4 : q' ≠ (4, j) ∨ ∀ t, t < 4 → N1 j (12 + t) = N2 j (12 + t)) (h5 : q' ≠ (5, j) ∨ ∀ t, t < 4 → N1 j (16 + t) = N2 j (16 + t)) : cK P N1 F T K A w q' = cK P N2 F T K A w q' := by
  obtain ⟨κ, i⟩ := q'
  by_cases hi : i = j
  · subst hi
    match κ with
    | 0 => rfl
    | 1 => rfl
    | 2 => rfl
    | 3 =>
      have g := h3.resolve_left (fun z => z rfl)
      simp only [cK, g 0 (by omega), g 1 (by omega), g 2 (by omega), g 3 (by omega), g 4 (by omega), g 5 (by omega), g 6 (by omega), g 7 (by omega), g 8 (by omega), g 9 (by omega), g 10 (by omega), g 11 (by omega)]
    | 4 =>
      have g := h4.resolve_left (fun z => z rfl)
      have e : (fun t => if t < 4 then N1 i (12 + t) else 0) = (fun t => if t < 4 then N2 i (12 + t) else 0) := by
        funext t
        by_cases ht : t < 4
        · rw [if_pos ht, if_pos ht, g t ht]
        · rw [if_neg ht, if_neg ht]
      simp only [cK, e]
    | 5 =>
      have g := h5.resolve_left (fun z => z rfl)
      have e : (fun t => if t < 4 then N1 i (16 + t) else 0) = (fun t => if t < 4 then N2 i (16 + t) else 0) := by
        funext t
        by_cases ht : t < 4
        · rw [if_pos ht, if_pos ht, g t ht]
        · rw [if_neg ht, if_neg ht]
      simp only [cK, e]
    | 6 => rfl
    | 7 => rfl
    | 8 => rfl
    | 9 => rfl
    | κ + 10 => rfl
  · have e := h i hi
    match κ with
    | 0 => rfl
    | 1 => rfl
    | 2 => rfl
    | 3 => simp only [cK, e]
    | 4 => simp only [cK, e]
    | 5 => simp only [cK, e]
    | 6 => rfl
    | 7 => rfl
    | 8 => rfl
    | 9 => rfl
    | κ + 10 => rfl
theorem cK_frF {F1 F2 : Nat → Nat → Int32} {j : Nat} (h : ∀ i, i ≠ j → F1 i = F2 i) {q' : Nat × Nat} (h3 : q' ≠ (7, j)) : cK P N F1 T K A w q' = cK P N F2 T K A w q' := by
  obtain ⟨κ, i⟩ := q'
  match κ with
  | 0 => rfl
  | 1 => rfl
  | 2 => rfl
  | 3 => rfl
  | 4 => rfl
  | 5 => rfl
  | 6 => rfl
  | 7 =>
    have e := h i (fun z => h3 (by rw [z]))
    simp only [cK, e]
  | 8 => rfl
  | 9 => rfl
  | κ + 10 => rfl
theorem cK_frT {T1 T2 : Nat → Nat → Int32} {j : Nat} (h : ∀ i, i ≠ j → T1 i = T2 i) {q' : Nat × Nat} (h3 : q' ≠ (1, j)) : cK P N F T1 K A w q' = cK P N F T2 K A w q' := by
  obtain ⟨κ, i⟩ := q'
  match κ with
  | 0 => rfl
  | 1 =>
    have e := h i (fun z => h3 (by rw [z]))
    simp only [cK, e]
  | 2 => rfl
  | 3 => rfl
  | 4 => rfl
  | 5 => rfl
  | 6 => rfl
  | 7 => rfl
  | 8 => rfl
  | 9 => rfl
  | κ + 10 => rfl
theorem cK_frA {A1 A2 : Nat → Nat → Int32} {j : Nat} (h : ∀ i, i ≠ j → A1 i = A2 i) {q' : Nat × Nat} (h3 : q' ≠ (9, j)) : cK P N F T K A1 w q' = cK P N F T K A2 w q' := by
  obtain ⟨κ, i⟩ := q'
  match κ with
  | 0 => rfl
  | 1 => rfl
  | 2 => rfl
  | 3 => rfl
  | 4 => rfl
  | 5 => rfl
  | 6 => rfl
  | 7 => rfl
  | 8 => rfl
  | 9 =>
    have e := h i (fun z => h3 (by rw [z]))
    simp only [cK, e]
  | κ + 10 => rfl
theorem cK_frK {K1 K2 : Nat → Int32} {q' : Nat × Nat} (h3 : q'.1 ≠ 8) : cK P N F T K1 A w q' = cK P N F T K2 A w q' := by
  obtain ⟨κ, i⟩ := q'
  match κ with
  | 0 => rfl
  | 1 => rfl
  | 2 => rfl
  | 3 => rfl
  | 4 => rfl
  | 5 => rfl
  | 6 => rfl
  | 7 => rfl
  | 8 => exact absurd rfl h3
  | 9 => rfl
  | κ + 10 => rfl
theorem up_off {α : Type} {f : Nat → α} {j : Nat} {a b : α} : ∀ i, i ≠ j → va_up f j a i = va_up f j b i := fun i hi => by rw [va_up_ne _ _ hi, va_up_ne _ _ hi]
/-- the fields of a nailer, of a fogger, of a trade, of the model, by their rows of numbers -/
def nF (P : L5) (j : Nat) (v : Nat → Int32) : List Value := [.int (v 0), .int (v 1), .int (v 2), .int (v 3), .int (v 4), .int (v 5), .int (v 6), .int (v 7), .int (v 8), .int (v 9), .int (v 10), .int (v 11), .ref (rL P j), .ref (rB P j)]
def fF (v : Nat → Int32) : List Value := [.int (v 0), .int (v 1), .int (v 2), .int (v 3), .int (v 4), .int (v 5)]
def tF (P : L5) (t : Nat) (v : Nat → Int32) : List Value := [.int (v 0), .int (v 1), .ref (rNA P t), .ref (rFA P t)]
def xF (P : L5) : List Value := [.ref (rT P 0), .ref (rT P 1), .ref (rN P 24)]
def mF (P : L5) (v : Nat → Int32) : List Value := [.int (v 0), .int (v 1), .int (v 2), .ref (rA P 0), .ref (rA P 1), .ref (rA P 2), .ref (rA P 3), .ref (rA P 4)]
theorem cK3 {j : Nat} {v : Nat → Int32} : cK P (va_up N j v) F T K A w (3, j) = .inr (1, nF P j v) := by
  simp only [cK, nF, va_up_self]
theorem cK4 {j : Nat} {v : Nat → Int32} : cK P (va_up N j v) F T K A w (4, j) = .inl (P.2.1, 4, .inl (fun i => if i < 4 then v (12 + i) else 0)) := by
  simp only [cK, va_up_self]
theorem cK5 {j : Nat} {v : Nat → Int32} : cK P (va_up N j v) F T K A w (5, j) = .inl (P.2.1, 4, .inl (fun i => if i < 4 then v (16 + i) else 0)) := by
  simp only [cK, va_up_self]
theorem cK7 {j : Nat} {v : Nat → Int32} : cK P N (va_up F j v) T K A w (7, j) = .inr (0, fF v) := by
  simp only [cK, fF, va_up_self]
theorem cK1 {j : Nat} {v : Nat → Int32} : cK P N F (va_up T j v) K A w (1, j) = .inr (2, tF P j v) := by
  simp only [cK, tF, va_up_self]
theorem nF_set {j : Nat} {v : Nat → Int32} {a : Int32} : ∀ kf, kf < 12 → nF P j (upd v kf a) = (nF P j v).set kf (.int a) := by
  intro kf hk
  rcases (show kf = 0 ∨ kf = 1 ∨ kf = 2 ∨ kf = 3 ∨ kf = 4 ∨ kf = 5 ∨ kf = 6 ∨ kf = 7 ∨ kf = 8 ∨ kf = 9 ∨ kf = 10 ∨ kf = 11 by omega) with rfl | rfl | rfl | rfl | rfl | rfl | rfl | rfl | rfl | rfl | rfl | rfl <;> rfl
theorem fF_set {v : Nat → Int32} {a : Int32} : ∀ kf, kf < 6 → fF (upd v kf a) = (fF v).set kf (.int a) := by
  intro kf hk
  rcases (show kf = 0 ∨ kf = 1 ∨ kf = 2 ∨ kf = 3 ∨ kf = 4 ∨ kf = 5 by omega) with rfl | rfl | rfl | rfl | rfl | rfl <;> rfl
theorem tF_set {t : Nat} {v : Nat → Int32} {a : Int32} : ∀ kf, kf < 2 → tF P t (upd v kf a) = (tF P t v).set kf (.int a) := by
  intro kf hk
  rcases (show kf = 0 ∨ kf = 1 by omega) with rfl | rfl <;> rfl
theorem mF_set {v : Nat → Int32} {a : Int32} : ∀ kf, kf < 3 → mF P (upd v kf a) = (mF P v).set kf (.int a) := by
  intro kf hk
  rcases (show kf = 0 ∨ kf = 1 ∨ kf = 2 by omega) with rfl | rfl | rfl <;> rfl
theorem upd_ge {v : Nat → Int32} {kf t : Nat} {a : Int32} (h : t ≠ kf) : upd v kf a t = v t := if_neg h
theorem tyN_int : ∀ kf, kf < 12 → tyX1 kf = .int ∧ (TX1 kf).2.2.2 = false := by decide +kernel
theorem tyF_int : ∀ kf, kf < 6 → tyX0 kf = .int ∧ (TX0 kf).2.2.2 = false := by decide +kernel
theorem tyT_int : ∀ kf, kf < 2 → tyX2 kf = .int ∧ (TX2 kf).2.2.2 = false := by decide +kernel
theorem tyM_int : ∀ kf, kf < 3 → tyX4 kf = .int ∧ (TX4 kf).2.2.2 = false := by decide +kernel
theorem v_gN (C : Cx p l s m args meth c P D cc nL ret own) {j : Nat} {v : Nat → Int32} (hj : j < 25) (kf : Nat) (hk : kf < 14) {index : Nat} (hlink : Cond.fieldLink own index (((RX1, TX1, 14)).2.1 kf).1 (((RX1, TX1, 14)).2.1 kf).2.1 (((RX1, TX1, 14)).2.1 kf).2.2.1 ∈ gtb) {u : Value} (hv : (nF P j v)[kf]? = some u) (hdg : decode cc pc = .ok (.getfield index, 3)) (kk : V p l e R s m args below meth c P D Q nL 97 False (cw P (va_up N j v) F T K A w) k z (pc + 3) lv (u :: st)) : V p l e R s m args below meth c P D Q nL 97 False (cw P (va_up N j v) F T K A w) k z pc lv (.ref (rN P j) :: st) := v_get C (3, j) (kdN j hj) (ci := 1) (r := (RX1, TX1, 14)) rfl cK3 inX1g kf hk hlink hv hdg kk
theorem v_gF (C : Cx p l s m args meth c P D cc nL ret own) {j : Nat} {v : Nat → Int32} (hj : j < 8) (kf : Nat) (hk : kf < 6) {index : Nat} (hlink : Cond.fieldLink own index (((RX0, TX0, 6)).2.1 kf).1 (((RX0, TX0, 6)).2.1 kf).2.1 (((RX0, TX0, 6)).2.1 kf).2.2.1 ∈ gtb) {u : Value} (hv : (fF v)[kf]? = some u) (hdg : decode cc pc = .ok (.getfield index, 3)) (kk : V p l e R s m args below meth c P D Q nL 97 False (cw P N (va_up F j v) T K A w) k z (pc + 3) lv (u :: st)) : V p l e R s m args below meth c P D Q nL 97 False (cw P N (va_up F j v) T K A w) k z pc lv (.ref (rF P j) :: st) := v_get C (7, j) (kdF j hj) (ci := 0) (r := (RX0, TX0, 6)) rfl cK7 inX0g kf hk hlink hv hdg kk
theorem v_gT (C : Cx p l s m args meth c P D cc nL ret own) {j : Nat} {v : Nat → Int32} (hj : j < 2) (kf : Nat) (hk : kf < 4) {index : Nat} (hlink : Cond.fieldLink own index (((RX2, TX2, 4)).2.1 kf).1 (((RX2, TX2, 4)).2.1 kf).2.1 (((RX2, TX2, 4)).2.1 kf).2.2.1 ∈ gtb) {u : Value} (hv : (tF P j v)[kf]? = some u) (hdg : decode cc pc = .ok (.getfield index, 3)) (kk : V p l e R s m args below meth c P D Q nL 97 False (cw P N F (va_up T j v) K A w) k z (pc + 3) lv (u :: st)) : V p l e R s m args below meth c P D Q nL 97 False (cw P N F (va_up T j v) K A w) k z pc lv (.ref (rT P j) :: st) := v_get C (1, j) (kdT j hj) (ci := 2) (r := (RX2, TX2, 4)) rfl cK1 inX2g kf hk hlink hv hdg kk
theorem v_gX (C : Cx p l s m args meth c P D cc nL ret own)  (kf : Nat) (hk : kf < 3) {index : Nat} (hlink : Cond.fieldLink own index (((RX3, TX3, 3)).2.1 kf).1 (((RX3, TX3, 3)).2.1 kf).2.1 (((RX3, TX3, 3)).2.1 kf).2.2.1 ∈ gtb) {u : Value} (hv : (xF P)[kf]? = some u) (hdg : decode cc pc = .ok (.getfield index, 3)) (kk : V p l e R s m args below meth c P D Q nL 97 False (cw P N F T K A w) k z (pc + 3) lv (u :: st)) : V p l e R s m args below meth c P D Q nL 97 False (cw P N F T K A w) k z pc lv (.ref (rX P) :: st) := v_get C (0, 0) kdX (ci := 3) (r := (RX3, TX3, 3)) rfl rfl inX3g kf hk hlink hv hdg kk
theorem v_gM (C : Cx p l s m args meth c P D cc nL ret own)  (kf : Nat) (hk : kf < 8) {index : Nat} (hlink : Cond.fieldLink own index (((RX4, TX4, 8)).2.1 kf).1 (((RX4, TX4, 8)).2.1 kf).2.1 (((RX4, TX4, 8)).2.1 kf).2.2.1 ∈ gtb) {u : Value} (hv : (mF P K)[kf]? = some u) (hdg : decode cc pc = .ok (.getfield index, 3)) (kk : V p l e R s m args below meth c P D Q nL 97 False (cw P N F T K A w) k z (pc + 3) lv (u :: st)) : V p l e R s m args below meth c P D Q nL 97 False (cw P N F T K A w) k z pc lv (.ref (rM P) :: st) := v_get C (8, 0) kdM (ci := 4) (r := (RX4, TX4, 8)) rfl rfl inX4g kf hk hlink hv hdg kk
theorem v_pN (C : Cx p l s m args meth c P D cc nL ret own) {j : Nat} {v : Nat → Int32} (hj : j < 25) (kf : Nat) (hk : kf < 12) {index : Nat} (hlink : Cond.fieldLink own index (((RX1, TX1, 14)).2.1 kf).1 (((RX1, TX1, 14)).2.1 kf).2.1 (((RX1, TX1, 14)).2.1 kf).2.2.1 ∈ gtb) {a : Int32} (hdg : decode cc pc = .ok (.putfield index, 3)) (kk : V p l e R s m args below meth c P D Q nL 97 False (cw P (va_up N j (upd v kf a)) F T K A w) k z (pc + 3) lv st) : V p l e R s m args below meth c P D Q nL 97 False (cw P (va_up N j v) F T K A w) k z pc lv (.int a :: .ref (rN P j) :: st) := v_put C (3, j) (kdN j hj) (ci := 1) (r := (RX1, TX1, 14)) (fs := (nF P j v)) rfl cK3 inX1g tyX1 tyX1_ok nmX1 kf (show kf < 14 by omega) (tyN_int kf hk).1 (tyN_int kf hk).2 (show kf < 14 by omega) hlink hdg (cK3.trans (by rw [nF_set kf hk])) (fun q9 h9 _ => cK_frN up_off (Or.inl h9) (Or.inr fun t _ => by rw [va_up_self, va_up_self, upd_ge (by omega)]) (Or.inr fun t _ => by rw [va_up_self, va_up_self, upd_ge (by omega)])) kk
theorem v_pF (C : Cx p l s m args meth c P D cc nL ret own) {j : Nat} {v : Nat → Int32} (hj : j < 8) (kf : Nat) (hk : kf < 6) {index : Nat} (hlink : Cond.fieldLink own index (((RX0, TX0, 6)).2.1 kf).1 (((RX0, TX0, 6)).2.1 kf).2.1 (((RX0, TX0, 6)).2.1 kf).2.2.1 ∈ gtb) {a : Int32} (hdg : decode cc pc = .ok (.putfield index, 3)) (kk : V p l e R s m args below meth c P D Q nL 97 False (cw P N (va_up F j (upd v kf a)) T K A w) k z (pc + 3) lv st) : V p l e R s m args below meth c P D Q nL 97 False (cw P N (va_up F j v) T K A w) k z pc lv (.int a :: .ref (rF P j) :: st) := v_put C (7, j) (kdF j hj) (ci := 0) (r := (RX0, TX0, 6)) (fs := (fF v)) rfl cK7 inX0g tyX0 tyX0_ok nmX0 kf (show kf < 6 by omega) (tyF_int kf hk).1 (tyF_int kf hk).2 (show kf < 6 by omega) hlink hdg (cK7.trans (by rw [fF_set kf hk])) (fun q9 h9 _ => cK_frF up_off h9) kk
theorem v_pT (C : Cx p l s m args meth c P D cc nL ret own) {j : Nat} {v : Nat → Int32} (hj : j < 2) (kf : Nat) (hk : kf < 2) {index : Nat} (hlink : Cond.fieldLink own index (((RX2, TX2, 4)).2.1 kf).1 (((RX2, TX2, 4)).2.1 kf).2.1 (((RX2, TX2, 4)).2.1 kf).2.2.1 ∈ gtb) {a : Int32} (hdg : decode cc pc = .ok (.putfield index, 3)) (kk : V p l e R s m args below meth c P D Q nL 97 False (cw P N F (va_up T j (upd v kf a)) K A w) k z (pc + 3) lv st) : V p l e R s m args below meth c P D Q nL 97 False (cw P N F (va_up T j v) K A w) k z pc lv (.int a :: .ref (rT P j) :: st) := v_put C (1, j) (kdT j hj) (ci := 2) (r := (RX2, TX2, 4)) (fs := (tF P j v)) rfl cK1 inX2g tyX2 tyX2_ok nmX2 kf (show kf < 4 by omega) (tyT_int kf hk).1 (tyT_int kf hk).2 (show kf < 4 by omega) hlink hdg (cK1.trans (by rw [tF_set kf hk])) (fun q9 h9 _ => cK_frT up_off h9) kk
theorem v_pM (C : Cx p l s m args meth c P D cc nL ret own) (kf : Nat) (hk : kf < 3) {index : Nat} (hlink : Cond.fieldLink own index ((RX4, TX4, 8).2.1 kf).1 ((RX4, TX4, 8).2.1 kf).2.1 ((RX4, TX4, 8).2.1 kf).2.2.1 ∈ gtb) {a : Int32} (hdg : decode cc pc = .ok (.putfield index, 3)) (kk : V p l e R s m args below meth c P D Q nL 97 False (cw P N F T (upd K kf a) A w) k z (pc + 3) lv st) : V p l e R s m args below meth c P D Q nL 97 False (cw P N F T K A w) k z pc lv (.int a :: .ref (rM P) :: st) := v_put C (8, 0) kdM (ci := 4) (r := (RX4, TX4, 8)) (fs := mF P K) rfl rfl inX4g tyX4 tyX4_ok nmX4 kf (show kf < 8 by omega) (tyM_int kf hk).1 (tyM_int kf hk).2 (show kf < 8 by omega) hlink hdg (show Sum.inr (4, mF P (upd K kf a)) = _ by rw [mF_set kf hk]) (fun q9 h9 hr9 => by
  obtain ⟨a9, ha9, rfl⟩ := hr9
  exact cK_frK (fun h8 => h9 (kd8 a9 ha9 h8))) kk
theorem v_gNN (C : Cx p l s m args meth c P D cc nL ret own) {j : Nat} {v : Nat → Int32} (hj : j < 25) (kf : Nat) (hk : kf < 14) {index : Nat} (hlink : (own, index, (((RX1, TX1, 14)).2.1 kf).1, (((RX1, TX1, 14)).2.1 kf).2.1, (((RX1, TX1, 14)).2.1 kf).2.2.1) ∈ nwF) {u : Value} (hv : (nF P j v)[kf]? = some u) (hdg : decode cc pc = .ok (.getfield index, 3)) (kk : V p l e R s m args below meth c P D Q nL 97 False (cw P (va_up N j v) F T K A w) k z (pc + 3) lv (u :: st)) : V p l e R s m args below meth c P D Q nL 97 False (cw P (va_up N j v) F T K A w) k z pc lv (.ref (rN P j) :: st) := v_getN C (3, j) (kdN j hj) (ci := 1) (r := (RX1, TX1, 14)) rfl cK3 inX1g kf hk hlink hv hdg kk
theorem v_gFN (C : Cx p l s m args meth c P D cc nL ret own) {j : Nat} {v : Nat → Int32} (hj : j < 8) (kf : Nat) (hk : kf < 6) {index : Nat} (hlink : (own, index, (((RX0, TX0, 6)).2.1 kf).1, (((RX0, TX0, 6)).2.1 kf).2.1, (((RX0, TX0, 6)).2.1 kf).2.2.1) ∈ nwF) {u : Value} (hv : (fF v)[kf]? = some u) (hdg : decode cc pc = .ok (.getfield index, 3)) (kk : V p l e R s m args below meth c P D Q nL 97 False (cw P N (va_up F j v) T K A w) k z (pc + 3) lv (u :: st)) : V p l e R s m args below meth c P D Q nL 97 False (cw P N (va_up F j v) T K A w) k z pc lv (.ref (rF P j) :: st) := v_getN C (7, j) (kdF j hj) (ci := 0) (r := (RX0, TX0, 6)) rfl cK7 inX0g kf hk hlink hv hdg kk
theorem v_gTN (C : Cx p l s m args meth c P D cc nL ret own) {j : Nat} {v : Nat → Int32} (hj : j < 2) (kf : Nat) (hk : kf < 4) {index : Nat} (hlink : (own, index, (((RX2, TX2, 4)).2.1 kf).1, (((RX2, TX2, 4)).2.1 kf).2.1, (((RX2, TX2, 4)).2.1 kf).2.2.1) ∈ nwF) {u : Value} (hv : (tF P j v)[kf]? = some u) (hdg : decode cc pc = .ok (.getfield index, 3)) (kk : V p l e R s m args below meth c P D Q nL 97 False (cw P N F (va_up T j v) K A w) k z (pc + 3) lv (u :: st)) : V p l e R s m args below meth c P D Q nL 97 False (cw P N F (va_up T j v) K A w) k z pc lv (.ref (rT P j) :: st) := v_getN C (1, j) (kdT j hj) (ci := 2) (r := (RX2, TX2, 4)) rfl cK1 inX2g kf hk hlink hv hdg kk
theorem v_gXN (C : Cx p l s m args meth c P D cc nL ret own)  (kf : Nat) (hk : kf < 3) {index : Nat} (hlink : (own, index, (((RX3, TX3, 3)).2.1 kf).1, (((RX3, TX3, 3)).2.1 kf).2.1, (((RX3, TX3, 3)).2.1 kf).2.2.1) ∈ nwF) {u : Value} (hv : (xF P)[kf]? = some u) (hdg : decode cc pc = .ok (.getfield index, 3)) (kk : V p l e R s m args below meth c P D Q nL 97 False (cw P N F T K A w) k z (pc + 3) lv (u :: st)) : V p l e R s m args below meth c P D Q nL 97 False (cw P N F T K A w) k z pc lv (.ref (rX P) :: st) := v_getN C (0, 0) kdX (ci := 3) (r := (RX3, TX3, 3)) rfl rfl inX3g kf hk hlink hv hdg kk
theorem v_gMN (C : Cx p l s m args meth c P D cc nL ret own)  (kf : Nat) (hk : kf < 8) {index : Nat} (hlink : (own, index, (((RX4, TX4, 8)).2.1 kf).1, (((RX4, TX4, 8)).2.1 kf).2.1, (((RX4, TX4, 8)).2.1 kf).2.2.1) ∈ nwF) {u : Value} (hv : (mF P K)[kf]? = some u) (hdg : decode cc pc = .ok (.getfield index, 3)) (kk : V p l e R s m args below meth c P D Q nL 97 False (cw P N F T K A w) k z (pc + 3) lv (u :: st)) : V p l e R s m args below meth c P D Q nL 97 False (cw P N F T K A w) k z pc lv (.ref (rM P) :: st) := v_getN C (8, 0) kdM (ci := 4) (r := (RX4, TX4, 8)) rfl rfl inX4g kf hk hlink hv hdg kk
theorem v_pNN (C : Cx p l s m args meth c P D cc nL ret own) {j : Nat} {v : Nat → Int32} (hj : j < 25) (kf : Nat) (hk : kf < 12) {index : Nat} (hlink : (own, index, (((RX1, TX1, 14)).2.1 kf).1, (((RX1, TX1, 14)).2.1 kf).2.1, (((RX1, TX1, 14)).2.1 kf).2.2.1) ∈ nwF) {a : Int32} (hdg : decode cc pc = .ok (.putfield index, 3)) (kk : V p l e R s m args below meth c P D Q nL 97 False (cw P (va_up N j (upd v kf a)) F T K A w) k z (pc + 3) lv st) : V p l e R s m args below meth c P D Q nL 97 False (cw P (va_up N j v) F T K A w) k z pc lv (.int a :: .ref (rN P j) :: st) := v_putN C (3, j) (kdN j hj) (ci := 1) (r := (RX1, TX1, 14)) (fs := (nF P j v)) rfl cK3 inX1g tyX1 tyX1_ok nmX1 kf (show kf < 14 by omega) (tyN_int kf hk).1 (tyN_int kf hk).2 (show kf < 14 by omega) hlink hdg (cK3.trans (by rw [nF_set kf hk])) (fun q9 h9 _ => cK_frN up_off (Or.inl h9) (Or.inr fun t _ => by rw [va_up_self, va_up_self, upd_ge (by omega)]) (Or.inr fun t _ => by rw [va_up_self, va_up_self, upd_ge (by omega)])) kk
theorem v_pFN (C : Cx p l s m args meth c P D cc nL ret own) {j : Nat} {v : Nat → Int32} (hj : j < 8) (kf : Nat) (hk : kf < 6) {index : Nat} (hlink : (own, index, (((RX0, TX0, 6)).2.1 kf).1, (((RX0, TX0, 6)).2.1 kf).2.1, (((RX0, TX0, 6)).2.1 kf).2.2.1) ∈ nwF) {a : Int32} (hdg : decode cc pc = .ok (.putfield index, 3)) (kk : V p l e R s m args below meth c P D Q nL 97 False (cw P N (va_up F j (upd v kf a)) T K A w) k z (pc + 3) lv st) : V p l e R s m args below meth c P D Q nL 97 False (cw P N (va_up F j v) T K A w) k z pc lv (.int a :: .ref (rF P j) :: st) := v_putN C (7, j) (kdF j hj) (ci := 0) (r := (RX0, TX0, 6)) (fs := (fF v)) rfl cK7 inX0g tyX0 tyX0_ok nmX0 kf (show kf < 6 by omega) (tyF_int kf hk).1 (tyF_int kf hk).2 (show kf < 6 by omega) hlink hdg (cK7.trans (by rw [fF_set kf hk])) (fun q9 h9 _ => cK_frF up_off h9) kk
theorem v_pTN (C : Cx p l s m args meth c P D cc nL ret own) {j : Nat} {v : Nat → Int32} (hj : j < 2) (kf : Nat) (hk : kf < 2) {index : Nat} (hlink : (own, index, (((RX2, TX2, 4)).2.1 kf).1, (((RX2, TX2, 4)).2.1 kf).2.1, (((RX2, TX2, 4)).2.1 kf).2.2.1) ∈ nwF) {a : Int32} (hdg : decode cc pc = .ok (.putfield index, 3)) (kk : V p l e R s m args below meth c P D Q nL 97 False (cw P N F (va_up T j (upd v kf a)) K A w) k z (pc + 3) lv st) : V p l e R s m args below meth c P D Q nL 97 False (cw P N F (va_up T j v) K A w) k z pc lv (.int a :: .ref (rT P j) :: st) := v_putN C (1, j) (kdT j hj) (ci := 2) (r := (RX2, TX2, 4)) (fs := (tF P j v)) rfl cK1 inX2g tyX2 tyX2_ok nmX2 kf (show kf < 4 by omega) (tyT_int kf hk).1 (tyT_int kf hk).2 (show kf < 4 by omega) hlink hdg (cK1.trans (by rw [tF_set kf hk])) (fun q9 h9 _ => cK_frT up_off h9) kk
theorem v_ldL (C : Cx p l s m args meth c P D cc nL ret own) {j : Nat} {v : Nat → Int32} (hj : j < 25) {i : Int32} (hin : vp_in i 4) (hdg : decode cc pc = .ok (.iaload, 1)) (kk : V p l e R s m args below meth c P D Q nL 97 False (cw P (va_up N j v) F T K A w) k z (pc + 1) lv (.int (v (12 + i.toNatClampNeg)) :: st)) : V p l e R s m args below meth c P D Q nL 97 False (cw P (va_up N j v) F T K A w) k z pc lv (.int i :: .ref (rL P j) :: st) := v_ldG C (4, j) (kdL j hj) cK4 hin (if_pos (Nat.not_le.mp fun q => hin (Or.inr q))) hdg kk
theorem v_ldB (C : Cx p l s m args meth c P D cc nL ret own) {j : Nat} {v : Nat → Int32} (hj : j < 25) {i : Int32} (hin : vp_in i 4) (hdg : decode cc pc = .ok (.iaload, 1)) (kk : V p l e R s m args below meth c P D Q nL 97 False (cw P (va_up N j v) F T K A w) k z (pc + 1) lv (.int (v (16 + i.toNatClampNeg)) :: st)) : V p l e R s m args below meth c P D Q nL 97 False (cw P (va_up N j v) F T K A w) k z pc lv (.int i :: .ref (rB P j) :: st) := v_ldG C (5, j) (kdB j hj) cK5 hin (if_pos (Nat.not_le.mp fun q => hin (Or.inr q))) hdg kk
theorem upd_sh {v : Nat → Int32} {b t : Nat} {a : Int32} (ht : t < 4) : (fun i => if i < 4 then upd v (b + t) a (b + i) else 0) = upd (fun i => if i < 4 then v (b + i) else 0) t a := by
  funext i
  by_cases hi : i = t
  · subst hi
    simp [upd, ht]
  · by_cases h4 : i < 4
    · simp only [upd, h4, if_true, if_neg hi, if_neg (show ¬ b + i = b + t by omega)]
    · simp only [upd, h4, if_false, if_neg hi]
theorem v_stL (C : Cx p l s m args meth c P D cc nL ret own) {j : Nat} {v : Nat → Int32} (hj : j < 25) {i a : Int32} (hin : vp_in i 4) (hdg : decode cc pc = .ok (.iastore, 1)) (kk : V p l e R s m args below meth c P D Q nL 97 False (cw P (va_up N j (upd v (12 + i.toNatClampNeg) a)) F T K A w) k z (pc + 1) lv st) : V p l e R s m args below meth c P D Q nL 97 False (cw P (va_up N j v) F T K A w) k z pc lv (.int a :: .int i :: .ref (rL P j) :: st) := by
  have h4 : i.toNatClampNeg < 4 := Nat.not_le.mp fun q => hin (Or.inr q)
  exact v_stG C (4, j) (kdL j hj) cK4 hin hdg (cK4.trans (by rw [upd_sh h4])) (fun q9 h9 _ => cK_frN up_off (Or.inr fun t ht => by rw [va_up_self, va_up_self, upd_ge (by omega)]) (Or.inl h9) (Or.inr fun t _ => by rw [va_up_self, va_up_self, upd_ge (by omega)])) kk
theorem v_stB (C : Cx p l s m args meth c P D cc nL ret own) {j : Nat} {v : Nat → Int32} (hj : j < 25) {i a : Int32} (hin : vp_in i 4) (hdg : decode cc pc = .ok (.iastore, 1)) (kk : V p l e R s m args below meth c P D Q nL 97 False (cw P (va_up N j (upd v (16 + i.toNatClampNeg) a)) F T K A w) k z (pc + 1) lv st) : V p l e R s m args below meth c P D Q nL 97 False (cw P (va_up N j v) F T K A w) k z pc lv (.int a :: .int i :: .ref (rB P j) :: st) := by
  have h4 : i.toNatClampNeg < 4 := Nat.not_le.mp fun q => hin (Or.inr q)
  exact v_stG C (5, j) (kdB j hj) cK5 hin hdg (cK5.trans (by rw [upd_sh h4])) (fun q9 h9 _ => cK_frN up_off (Or.inr fun t ht => by rw [va_up_self, va_up_self, upd_ge (by omega)]) (Or.inr fun t _ => by rw [va_up_self, va_up_self, upd_ge (by omega)]) (Or.inl h9)) kk
theorem v_ldA (C : Cx p l s m args meth c P D cc nL ret own) {b : Nat} (hj : b < 5) {i a : Int32} (hin : vp_in i (lenA b)) (ha : A b i.toNatClampNeg = a) (hdg : decode cc pc = .ok (.iaload, 1)) (kk : V p l e R s m args below meth c P D Q nL 97 False (cw P N F T K A w) k z (pc + 1) lv (.int a :: st)) : V p l e R s m args below meth c P D Q nL 97 False (cw P N F T K A w) k z pc lv (.int i :: .ref (rA P b) :: st) := v_ldG C (9, b) (kdA b hj) rfl hin ha hdg kk
theorem v_stA (C : Cx p l s m args meth c P D cc nL ret own) {b : Nat} (hj : b < 5) {i a : Int32} (hin : vp_in i (lenA b)) {A' : Nat → Nat → Int32} (hA : va_up A b (upd (A b) i.toNatClampNeg a) = A') (hdg : decode cc pc = .ok (.iastore, 1)) (kk : V p l e R s m args below meth c P D Q nL 97 False (cw P N F T K A' w) k z (pc + 1) lv st) : V p l e R s m args below meth c P D Q nL 97 False (cw P N F T K A w) k z pc lv (.int a :: .int i :: .ref (rA P b) :: st) := by
  subst hA
  exact v_stG C (9, b) (kdA b hj) rfl hin hdg (by simp only [cK, va_up_self]) (fun q9 h9 _ => cK_frA (fun i9 hi9 => va_up_ne _ _ hi9) h9) kk
theorem v_lenA (C : Cx p l s m args meth c P D cc nL ret own) {b : Nat} (hj : b < 5) {a : Int32} (ha : Int32.ofNat (lenA b) = a) (hdg : decode cc pc = .ok (.arraylength, 1)) (kk : V p l e R s m args below meth c P D Q nL 97 False (cw P N F T K A w) k z (pc + 1) lv (.int a :: st)) : V p l e R s m args below meth c P D Q nL 97 False (cw P N F T K A w) k z pc lv (.ref (rA P b) :: st) := v_lenG C (9, b) (kdA b hj) rfl ha hdg kk
end VHeap
end
section
/-! CONTRACTS, THEIR BODIES, RETURNS, CALLS -/
abbrev aO (P : L5) : Nat → Prop := fun q => P.1 ≤ q
/-- behind a method: the cells hold f' -/
def PostB (P : L5) (D : va_G) (n : Nat) (x : Prop) (f : Nat → va_E) : Unit → State → Prop := fun _ t => va_P D vwCl (wl P.1 n f) t.heap ∧ (x → t.heap.size = P.1 + n)
abbrev QcI (P : L5) (D : va_G) (n : Nat) (x : Prop) (f : Nat → va_E) (r : Int32) := va_Qi (fun (r' : Int32) (_ : Unit) => r' = r) (PostB P D n x f) (aO P)
abbrev QcL (P : L5) (D : va_G) (n : Nat) (x : Prop) (f : Nat → va_E) (r : Int64) := va_Ql (fun (r' : Int64) (_ : Unit) => r' = r) (PostB P D n x f) (aO P)
abbrev QcV (P : L5) (D : va_G) (n : Nat) (x : Prop) (f : Nat → va_E) := va_Qv (fun (_ : Unit) => True) (PostB P D n x f) (aO P)
def CtI (l : Launch) (y : MethodName) (b : ByteArray) (nL : Nat) (rt : FieldType) (h mc ms : Nat) (P : L5) (D : va_G) (n n' : Nat) (x : Prop) (f f' : Nat → va_E) (av : List Value) (r : Int32) : Prop := Met l y (.code y b nL (some rt) :: gtb) (rmO h mc ms) (va_Pc av (PreI P D n x f)) (QcI P D n' x f' r) mc ms (aO P)
def CtL (l : Launch) (y : MethodName) (b : ByteArray) (nL : Nat) (h mc ms : Nat) (P : L5) (D : va_G) (n n' : Nat) (x : Prop) (f f' : Nat → va_E) (av : List Value) (r : Int64) : Prop := Met l y (.code y b nL (some .long) :: gtb) (rmO h mc ms) (va_Pc av (PreI P D n x f)) (QcL P D n' x f' r) mc ms (aO P)
def CtV (l : Launch) (y : MethodName) (b : ByteArray) (nL : Nat) (h mc ms : Nat) (P : L5) (D : va_G) (n n' : Nat) (x : Prop) (f f' : Nat → va_E) (av : List Value) : Prop := Met l y (.code y b nL none :: gtb) (rmO h mc ms) (va_Pc av (PreI P D n x f)) (QcV P D n' x f') mc ms (aO P)
/-- a method's body: from its walk -/
theorem mk_Met {l : Launch} {y : MethodName} {b : ByteArray} {nL : Nat} {rt : Option FieldType} {h mc ms : Nat} {P : L5} {D : va_G} {n : Nat} {x : Prop} {f : Nat → va_E} {av : List Value} {Qc : Array Value → State → Outcome → State → Prop} (hy : plainName y.cls = true) (lv : List (Nat × Value)) (hlv : lv_args 0 av = lv) (hlen : (lg_sl av).length ≤ nL)
    (body : ∀ (p : Program) (e : Env) (s : State) (m : MethodId) (args : Array Value) (below : List Frame) (meth : Method) (c : Code), Cx p l s m args meth c P D b nL rt y.cls → V p l e (rmO h mc ms) s m args below meth c P D (MQ below Qc args s mc ms (aO P)) nL n x f 0 0 0 lv []) :
    Met l y (.code y b nL rt :: gtb) (rmO h mc ms) (va_Pc av (PreI P D n x f)) Qc mc ms (aO P) := by
  refine Met.ofW (cc := b) (maxL := nL) (ret := rt) hy rfl ?_
  intro p e s m args below meth c s₁ B hml hv
  obtain ⟨rfl, hP, hK, ho, hz, hST⟩ := hv
  have hts := atoms_spec (ws := (.code y b nL rt :: gtb)) B.pre
  have hown : s.vm.findClass y.cls = some m.cls := findClass_of_methodNamed B.named
  have C : Cx p l s m av.toArray meth c P D b nL rt y.cls := ⟨B.exec, B.bytes, hml, hown, fun w hw => hts w (List.mem_cons_of_mem _ hw), B.returns, B.notSynchronized, hK, ho, hST⟩
  have hl := lv_entry av hlen
  rw [lg_entry_eq]
  rw [hlv] at hl
  exact body p e s m av.toArray below meth c C s.heap [] _ hP hz va_S.rf hl
section VCalls
variable {p : Program} {l : Launch} {e : Env} {R : Room} {s : State} {m : MethodId} {args : Array Value} {below : List Frame} {meth : Method} {c : Code} {P : L5} {D : va_G} {Q : State → Prop} {nL n : Nat} {x : Prop} {f : Nat → va_E} {k z pc : Nat} {lv : List (Nat × Value)} {st : List Value} {cc : ByteArray} {ret : Option FieldType} {own : String}
theorem v_iret (C : Cx p l s m args meth c P D cc nL (some .int) own) {f' : Nat → va_E} {a r : Int32} (hdg : decode cc pc = .ok (.ireturn, 1)) (hf : f = f') (hr : a = r) : V p l e R s m args below meth c P D (MQ below (QcI P D n x f' r) args s k z (aO P)) nL n x f k z pc lv [.int a] := by
  subst hf; subst hr
  intro H locs ls hP hz hS hl
  exact W.iret C.1 C.2.1 C.2.2.2.2.2.1 (fun t ht hW => ⟨⟨a, (), rfl, rfl, by rw [ht]; exact hP, fun hx => by rw [ht]; exact hz hx⟩, hS.F ht⟩) hS.2.2 hdg C.2.2.2.2.2.2.1
theorem v_zret (C : Cx p l s m args meth c P D cc nL (some .boolean) own) {f' : Nat → va_E} {a r : Int32} (hdg : decode cc pc = .ok (.ireturn, 1)) (hn : narrow .boolean (.int a) = .int a) (hf : f = f') (hr : a = r) : V p l e R s m args below meth c P D (MQ below (QcI P D n x f' r) args s k z (aO P)) nL n x f k z pc lv [.int a] := by
  subst hf; subst hr
  intro H locs ls hP hz hS hl
  exact W.zret C.1 C.2.1 C.2.2.2.2.2.1 hn (fun t ht hW => ⟨⟨a, (), rfl, rfl, by rw [ht]; exact hP, fun hx => by rw [ht]; exact hz hx⟩, hS.F ht⟩) hS.2.2 hdg C.2.2.2.2.2.2.1
theorem v_lret (C : Cx p l s m args meth c P D cc nL (some .long) own) {f' : Nat → va_E} {a r : Int64} (hdg : decode cc pc = .ok (.lreturn, 1)) (hf : f = f') (hr : a = r) : V p l e R s m args below meth c P D (MQ below (QcL P D n x f' r) args s k z (aO P)) nL n x f k z pc lv [.long a] := by
  subst hf; subst hr
  intro H locs ls hP hz hS hl
  exact W.lret C.1 C.2.1 C.2.2.2.2.2.1 (fun t ht hW => ⟨⟨a, (), rfl, rfl, by rw [ht]; exact hP, fun hx => by rw [ht]; exact hz hx⟩, hS.F ht⟩) hS.2.2 hdg C.2.2.2.2.2.2.1
theorem v_vret (C : Cx p l s m args meth c P D cc nL none own) {f' : Nat → va_E} (hdg : decode cc pc = .ok (.return_, 1)) (hf : f = f') : V p l e R s m args below meth c P D (MQ below (QcV P D n x f') args s k z (aO P)) nL n x f k z pc lv [] := by
  subst hf
  intro H locs ls hP hz hS hl
  exact W.vret C.1 C.2.1 C.2.2.2.2.2.1 (fun t ht hW => ⟨⟨(), rfl, trivial, by rw [ht]; exact hP, fun hx => by rw [ht]; exact hz hx⟩, hS.F ht⟩) hS.2.2 hdg C.2.2.2.2.2.2.1
theorem pre_of (C : Cx p l s m args meth c P D cc nL ret own) {H : Heap} {locs : List Loc} (hP : va_P D vwCl (wl P.1 n f) H) (hz : x → H.size = P.1 + n) (hS : va_S (fun q => P.1 ≤ q) s.heap H locs) {av : List Value} : ∀ U : State, U.heap = H → s.WarmedH U.vm → va_Pc av (PreI P D n x f) av.toArray U := by
  obtain ⟨hx, hb, hml, hown, hts, hr, hlk, hK, ho, hST⟩ := C
  intro U hU hW
  exact ⟨rfl, by rw [hU]; exact hP, va_K.moved hW.alike hK, by rw [hU]; exact Nat.le_trans ho hS.1, fun h9 => by rw [hU]; exact hz h9, ST.move hST hW (by rw [hU]; exact hS.2.1)⟩
/-- the receiver: a cell of the world, of the class Cn -/
def rcv (P : L5) (n : Nat) (f : Nat → va_E) (b : Nat) (Cn : String) : Prop := ∃ (q ci : Nat) (fs : List Value) (r : vw_C), (wl P.1 n f)[q]? = some (b, .inr (ci, fs)) ∧ vwCl[ci]? = some r ∧ r.1 = Cn
theorem run_V (C : Cx p l s m args meth c P D cc nL ret own) {y : MethodName} {b : ByteArray} {nb : Nat} {rt : Option FieldType} {h mc ms : Nat} {As rest : List Value} {a index : Nat} {Qc : Array Value → State → Outcome → State → Prop} (hM : Met l y (.code y b nb rt :: gtb) (rmO h mc ms) (va_Pc (.ref a :: As) (PreI P D n x f)) Qc mc ms (aO P)) (hk : Cond.code y b nb rt ∈ gtb) (hini : Cond.initialized y.cls ∈ gtb) (hl9 : Cond.methodLink own index y ∈ gtb) (hin : Cond.instanceMethod y ∈ gtb) (hse : Cond.selects y.cls y y ∈ gtb) (hd : y.cls ≠ "java/lang/invoke/MethodHandle" ∧ y.cls ≠ "java/lang/invoke/VarHandle" ∧ (parseMethodDescriptor y.desc).map (fun d => d.parameters.length) = some As.length) (hR : h + 1 ≤ R.frames ∧ 8 + (nb + 11) + 28 * h ≤ R.locals) (hrc : rcv P n f a y.cls) (hst : st = As.reverse ++ .ref a :: rest) (hW : (rest.map fun v => v.category).sum ≤ 8) (hdg : decode cc pc = .ok (.invokevirtual index, 3)) (hf : k + mc ≤ R.cells ∧ z + ms ≤ R.slots) : ∀ (H : Heap) (locs : List Loc) (ls : Array Slot), va_P D vwCl (wl P.1 n f) H → (x → H.size = P.1 + n) → va_S (fun q => P.1 ≤ q) s.heap H locs → lv_has ls nL lv → va_Run p l e R s m args below meth c H locs k z mc ms (F0 m pc ls st) rest (Qc (Value.ref a :: As).toArray) (aO P) := by
  intro H locs ls hP hz hS hl
  obtain ⟨hx, hb, hml, hown, hts, hr, hlk, hK, ho, hST⟩ := id C
  obtain ⟨q, ci, fs, r, h1, h2, h3⟩ := hrc
  have hG := gtb_in (w0 := .code y b nb rt) hk
  have hts' : ∀ w ∈ (.code y b nb rt :: gtb : List Cond), w.before args s = true := fun w hw => (List.mem_cons.mp hw).elim (fun e9 => by rw [e9]; exact hts _ hk) (hts w)
  exact va_runV (Ts := (.code y b nb rt :: gtb)) ⟨hx, hb, hml, hown, hts'⟩ hM ⟨callB_of As.length hts' hG rfl rfl rfl (hts _ hini) (hts _ hl9) hd hR, hts _ hin, hts _ hse⟩ ⟨PreI.blind, by rw [← h3]; exact va_recv hK hP h2 h1, pre_of C hP hz hS⟩ rfl rfl hl.1 hst (lv_room hW) hdg hf
theorem run_S (C : Cx p l s m args meth c P D cc nL ret own) {y : MethodName} {b : ByteArray} {nb : Nat} {rt : Option FieldType} {h mc ms : Nat} {As rest : List Value} {index : Nat} {Qc : Array Value → State → Outcome → State → Prop} (hM : Met l y (.code y b nb rt :: gtb) (rmO h mc ms) (va_Pc As (PreI P D n x f)) Qc mc ms (aO P)) (hk : Cond.code y b nb rt ∈ gtb) (hini : Cond.initialized y.cls ∈ gtb) (hl9 : Cond.methodLink own index y ∈ gtb) (hin : Cond.static y ∈ gtb) (hd : y.cls ≠ "java/lang/invoke/MethodHandle" ∧ y.cls ≠ "java/lang/invoke/VarHandle" ∧ (parseMethodDescriptor y.desc).map (fun d => d.parameters.length) = some As.length) (hR : h + 1 ≤ R.frames ∧ 8 + (nb + 11) + 28 * h ≤ R.locals) (hst : st = As.reverse ++ rest) (hW : (rest.map fun v => v.category).sum ≤ 8) (hdg : decode cc pc = .ok (.invokestatic index, 3)) (hf : k + mc ≤ R.cells ∧ z + ms ≤ R.slots) : ∀ (H : Heap) (locs : List Loc) (ls : Array Slot), va_P D vwCl (wl P.1 n f) H → (x → H.size = P.1 + n) → va_S (fun q => P.1 ≤ q) s.heap H locs → lv_has ls nL lv → va_Run p l e R s m args below meth c H locs k z mc ms (F0 m pc ls st) rest (Qc As.toArray) (aO P) := by
  intro H locs ls hP hz hS hl
  obtain ⟨hx, hb, hml, hown, hts, hr, hlk, hK, ho, hST⟩ := id C
  have hG := gtb_in (w0 := .code y b nb rt) hk
  have hts' : ∀ w ∈ (.code y b nb rt :: gtb : List Cond), w.before args s = true := fun w hw => (List.mem_cons.mp hw).elim (fun e9 => by rw [e9]; exact hts _ hk) (hts w)
  exact va_runS (Ts := (.code y b nb rt :: gtb)) ⟨hx, hb, hml, hown, hts'⟩ hM ⟨callB_of As.length hts' hG rfl rfl rfl (hts _ hini) (hts _ hl9) hd hR, hts _ hin⟩ ⟨PreI.blind, pre_of C hP hz hS⟩ rfl rfl hl.1 hst (lv_room hW) hdg hf
theorem runx_V (C : Cx p l s m args meth c P D cc nL ret own) {y : MethodName} {b : ByteArray} {nb : Nat} {rt : Option FieldType} {h mc ms : Nat} {As rest : List Value} {a index : Nat} {Qc : Array Value → State → Outcome → State → Prop} {XC : String → State → State → Prop} (hM : vx_Met l y (.code y b nb rt :: gtb) (rmO h mc ms) (va_Pc (.ref a :: As) (PreI P D n x f)) Qc XC mc ms (aO P)) (hk : Cond.code y b nb rt ∈ gtb) (hini : Cond.initialized y.cls ∈ gtb) (hl9 : Cond.methodLink own index y ∈ gtb) (hin : Cond.instanceMethod y ∈ gtb) (hse : Cond.selects y.cls y y ∈ gtb) (hd : y.cls ≠ "java/lang/invoke/MethodHandle" ∧ y.cls ≠ "java/lang/invoke/VarHandle" ∧ (parseMethodDescriptor y.desc).map (fun d => d.parameters.length) = some As.length) (hR : h + 1 ≤ R.frames ∧ 8 + (nb + 11) + 28 * h ≤ R.locals) (hrc : rcv P n f a y.cls) (hst : st = As.reverse ++ .ref a :: rest) (hW : (rest.map fun v => v.category).sum ≤ 8) (hdg : decode cc pc = .ok (.invokevirtual index, 3)) (hf : k + mc ≤ R.cells ∧ z + ms ≤ R.slots) : ∀ (H : Heap) (locs : List Loc) (ls : Array Slot), va_P D vwCl (wl P.1 n f) H → (x → H.size = P.1 + n) → va_S (fun q => P.1 ≤ q) s.heap H locs → lv_has ls nL lv → vx_Run p l e R s m args below meth c H locs k z mc ms (F0 m pc ls st) rest (Qc (Value.ref a :: As).toArray) XC (aO P) := by
  intro H locs ls hP hz hS hl
  obtain ⟨hx, hb, hml, hown, hts, hr, hlk, hK, ho, hST⟩ := id C
  obtain ⟨q, ci, fs, r, h1, h2, h3⟩ := hrc
  have hG := gtb_in (w0 := .code y b nb rt) hk
  have hts' : ∀ w ∈ (.code y b nb rt :: gtb : List Cond), w.before args s = true := fun w hw => (List.mem_cons.mp hw).elim (fun e9 => by rw [e9]; exact hts _ hk) (hts w)
  exact vx_runV (Ts := (.code y b nb rt :: gtb)) ⟨hx, hb, hml, hown, hts'⟩ hM ⟨callB_of As.length hts' hG rfl rfl rfl (hts _ hini) (hts _ hl9) hd hR, hts _ hin, hts _ hse⟩ ⟨PreI.blind, by rw [← h3]; exact va_recv hK hP h2 h1, pre_of C hP hz hS⟩ rfl rfl hl.1 hst (lv_room hW) hdg hf
theorem runx_S (C : Cx p l s m args meth c P D cc nL ret own) {y : MethodName} {b : ByteArray} {nb : Nat} {rt : Option FieldType} {h mc ms : Nat} {As rest : List Value} {index : Nat} {Qc : Array Value → State → Outcome → State → Prop} {XC : String → State → State → Prop} (hM : vx_Met l y (.code y b nb rt :: gtb) (rmO h mc ms) (va_Pc As (PreI P D n x f)) Qc XC mc ms (aO P)) (hk : Cond.code y b nb rt ∈ gtb) (hini : Cond.initialized y.cls ∈ gtb) (hl9 : Cond.methodLink own index y ∈ gtb) (hin : Cond.static y ∈ gtb) (hd : y.cls ≠ "java/lang/invoke/MethodHandle" ∧ y.cls ≠ "java/lang/invoke/VarHandle" ∧ (parseMethodDescriptor y.desc).map (fun d => d.parameters.length) = some As.length) (hR : h + 1 ≤ R.frames ∧ 8 + (nb + 11) + 28 * h ≤ R.locals) (hst : st = As.reverse ++ rest) (hW : (rest.map fun v => v.category).sum ≤ 8) (hdg : decode cc pc = .ok (.invokestatic index, 3)) (hf : k + mc ≤ R.cells ∧ z + ms ≤ R.slots) : ∀ (H : Heap) (locs : List Loc) (ls : Array Slot), va_P D vwCl (wl P.1 n f) H → (x → H.size = P.1 + n) → va_S (fun q => P.1 ≤ q) s.heap H locs → lv_has ls nL lv → vx_Run p l e R s m args below meth c H locs k z mc ms (F0 m pc ls st) rest (Qc As.toArray) XC (aO P) := by
  intro H locs ls hP hz hS hl
  obtain ⟨hx, hb, hml, hown, hts, hr, hlk, hK, ho, hST⟩ := id C
  have hG := gtb_in (w0 := .code y b nb rt) hk
  have hts' : ∀ w ∈ (.code y b nb rt :: gtb : List Cond), w.before args s = true := fun w hw => (List.mem_cons.mp hw).elim (fun e9 => by rw [e9]; exact hts _ hk) (hts w)
  exact vx_runS (Ts := (.code y b nb rt :: gtb)) ⟨hx, hb, hml, hown, hts'⟩ hM ⟨callB_of As.length hts' hG rfl rfl rfl (hts _ hini) (hts _ hl9) hd hR, hts _ hin⟩ ⟨PreI.blind, pre_of C hP hz hS⟩ rfl rfl hl.1 hst (lv_room hW) hdg hf
theorem run_VN (C : Cx p l s m args meth c P D cc nL ret own) {y : MethodName} {b : ByteArray} {nb : Nat} {rt : Option FieldType} {h mc ms : Nat} {As rest : List Value} {a index : Nat} {Qc : Array Value → State → Outcome → State → Prop} (hM : Met l y (.code y b nb rt :: gtb) (rmO h mc ms) (va_Pc (.ref a :: As) (PreI P D n x f)) Qc mc ms (aO P)) (hk : Cond.code y b nb rt ∈ gtb) (hini : Cond.initialized y.cls ∈ gtb) (hl9 : (own, index, y) ∈ nwM) (hin : Cond.instanceMethod y ∈ gtb) (hse : Cond.selects y.cls y y ∈ gtb) (hd : y.cls ≠ "java/lang/invoke/MethodHandle" ∧ y.cls ≠ "java/lang/invoke/VarHandle" ∧ (parseMethodDescriptor y.desc).map (fun d => d.parameters.length) = some As.length) (hR : h + 1 ≤ R.frames ∧ 8 + (nb + 11) + 28 * h ≤ R.locals) (hrc : rcv P n f a y.cls) (hst : st = As.reverse ++ .ref a :: rest) (hW : (rest.map fun v => v.category).sum ≤ 8) (hdg : decode cc pc = .ok (.invokevirtual index, 3)) (hf : k + mc ≤ R.cells ∧ z + ms ≤ R.slots) : ∀ (H : Heap) (locs : List Loc) (ls : Array Slot), va_P D vwCl (wl P.1 n f) H → (x → H.size = P.1 + n) → va_S (fun q => P.1 ≤ q) s.heap H locs → lv_has ls nL lv → va_Run p l e R s m args below meth c H locs k z mc ms (F0 m pc ls st) rest (Qc (Value.ref a :: As).toArray) (aO P) := by
  intro H locs ls hP hz hS hl
  obtain ⟨hx, hb, hml, hown, hts, hr, hlk, hK, ho, hST⟩ := id C
  obtain ⟨q, ci, fs, r, h1, h2, h3⟩ := hrc
  have hG := gtb_in (w0 := .code y b nb rt) hk
  have hts' : ∀ w ∈ (.code y b nb rt :: gtb : List Cond), w.before args s = true := fun w hw => (List.mem_cons.mp hw).elim (fun e9 => by rw [e9]; exact hts _ hk) (hts w)
  exact va_runVN (Ts := (.code y b nb rt :: gtb)) ⟨hx, hb, hml, hown, hts'⟩ hM ⟨va_cnB As.length hts' hG rfl rfl rfl (hST.2.2.2.2.1 _ hl9) (hts _ hini) hd hR, hts _ hin, hts _ hse⟩ ⟨PreI.blind, by rw [← h3]; exact va_recv hK hP h2 h1, pre_of C hP hz hS⟩ rfl rfl hl.1 hst (lv_room hW) hdg hf
theorem run_IN (C : Cx p l s m args meth c P D cc nL ret own) {y : MethodName} {b : ByteArray} {nb : Nat} {h mc ms : Nat} {As rest : List Value} {a index : Nat} {Qc : Array Value → State → Outcome → State → Prop} (hM : Met l y (.code y b nb none :: gtb) (rmO h mc ms) (va_Pc (.ref a :: As) (PreI P D n x f)) Qc mc ms (aO P)) (hk : Cond.code y b nb none ∈ gtb) (hini : Cond.initialized y.cls ∈ gtb) (hl9 : (own, index, y) ∈ nwM) (hin : Cond.instanceMethod y ∈ gtb) (hy1 : y.name = "<init>") (hd : y.cls ≠ "java/lang/invoke/MethodHandle" ∧ y.cls ≠ "java/lang/invoke/VarHandle" ∧ (parseMethodDescriptor y.desc).map (fun d => d.parameters.length) = some As.length) (hR : h + 1 ≤ R.frames ∧ 8 + (nb + 11) + 28 * h ≤ R.locals) (hst : st = As.reverse ++ .ref a :: rest) (hW : (rest.map fun v => v.category).sum ≤ 8) (hdg : decode cc pc = .ok (.invokespecial index, 3)) (hf : k + mc ≤ R.cells ∧ z + ms ≤ R.slots) : ∀ (H : Heap) (locs : List Loc) (ls : Array Slot), va_P D vwCl (wl P.1 n f) H → (x → H.size = P.1 + n) → va_S (fun q => P.1 ≤ q) s.heap H locs → lv_has ls nL lv → va_Run p l e R s m args below meth c H locs k z mc ms (F0 m pc ls st) rest (Qc (Value.ref a :: As).toArray) (aO P) := by
  intro H locs ls hP hz hS hl
  obtain ⟨hx, hb, hml, hown, hts, hr, hlk, hK, ho, hST⟩ := id C
  have hG := gtb_in (w0 := .code y b nb none) hk
  have hts' : ∀ w ∈ (.code y b nb none :: gtb : List Cond), w.before args s = true := fun w hw => (List.mem_cons.mp hw).elim (fun e9 => by rw [e9]; exact hts _ hk) (hts w)
  exact va_runIN (Ts := (.code y b nb none :: gtb)) ⟨hx, hb, hml, hown, hts'⟩ hM ⟨va_cnB As.length hts' hG rfl rfl rfl (hST.2.2.2.2.1 _ hl9) (hts _ hini) hd hR, hy1, hts _ hin⟩ ⟨PreI.blind, pre_of C hP hz hS⟩ rfl rfl hl.1 hst (lv_room hW) hdg hf
theorem go_I {mc ms n' : Nat} {f' : Nat → va_E} {r : Int32} {rest : List Value} {a : Array Value} (hr : ∀ (H : Heap) (locs : List Loc) (ls : Array Slot), va_P D vwCl (wl P.1 n f) H → (x → H.size = P.1 + n) → va_S (fun q => P.1 ≤ q) s.heap H locs → lv_has ls nL lv → va_Run p l e R s m args below meth c H locs k z mc ms (F0 m pc ls st) rest ((QcI P D n' x f' r) a) (aO P)) (kk : V p l e R s m args below meth c P D Q nL n' x f' (k + mc) (z + ms) (pc + 3) lv (.int r :: rest)) : V p l e R s m args below meth c P D Q nL n x f k z pc lv st := by
  intro H locs ls hP hz hS hl
  refine va_calli (hr H locs ls hP hz hS hl) hS (fun q _ h => h) (fun q h => h) (fun r9 u t H1 locs1 ht hvm hw hB hz1 hk1 hS1 => ?_)
  subst ht
  subst hw
  exact kk _ locs1 ls hB.1 hB.2 hS1 hl
theorem go_L {mc ms n' : Nat} {f' : Nat → va_E} {r : Int64} {rest : List Value} {a : Array Value} (hr : ∀ (H : Heap) (locs : List Loc) (ls : Array Slot), va_P D vwCl (wl P.1 n f) H → (x → H.size = P.1 + n) → va_S (fun q => P.1 ≤ q) s.heap H locs → lv_has ls nL lv → va_Run p l e R s m args below meth c H locs k z mc ms (F0 m pc ls st) rest ((QcL P D n' x f' r) a) (aO P)) (kk : V p l e R s m args below meth c P D Q nL n' x f' (k + mc) (z + ms) (pc + 3) lv (.long r :: rest)) : V p l e R s m args below meth c P D Q nL n x f k z pc lv st := by
  intro H locs ls hP hz hS hl
  refine va_calll (hr H locs ls hP hz hS hl) hS (fun q _ h => h) (fun q h => h) (fun r9 u t H1 locs1 ht hvm hw hB hz1 hk1 hS1 => ?_)
  subst ht
  subst hw
  exact kk _ locs1 ls hB.1 hB.2 hS1 hl
theorem go_V {mc ms n' : Nat} {f' : Nat → va_E} {rest : List Value} {a : Array Value} (hr : ∀ (H : Heap) (locs : List Loc) (ls : Array Slot), va_P D vwCl (wl P.1 n f) H → (x → H.size = P.1 + n) → va_S (fun q => P.1 ≤ q) s.heap H locs → lv_has ls nL lv → va_Run p l e R s m args below meth c H locs k z mc ms (F0 m pc ls st) rest ((QcV P D n' x f') a) (aO P)) (kk : V p l e R s m args below meth c P D Q nL n' x f' (k + mc) (z + ms) (pc + 3) lv rest) : V p l e R s m args below meth c P D Q nL n x f k z pc lv st := by
  intro H locs ls hP hz hS hl
  refine va_callv (hr H locs ls hP hz hS hl) hS (fun q _ h => h) (fun q h => h) (fun u t H1 locs1 ht hvm hw hB hz1 hk1 hS1 => ?_)
  subst ht
  clear hw
  exact kk _ locs1 ls hB.1 hB.2 hS1 hl
theorem rcN {N F T : Nat → Nat → Int32} {K : Nat → Int32} {A : Nat → Nat → Int32} {w : Int64} {j : Nat} (hj : j < 25) : rcv P 97 (cw P N F T K A w) (rN P j) RX1 := ⟨ik (3, j), 1, _, _, cw_get (3, j) (kdN j hj).1 (kdN j hj).2, rfl, rfl⟩
theorem rcF {N F T : Nat → Nat → Int32} {K : Nat → Int32} {A : Nat → Nat → Int32} {w : Int64} {j : Nat} (hj : j < 8) : rcv P 97 (cw P N F T K A w) (rF P j) RX0 := ⟨ik (7, j), 0, _, _, cw_get (7, j) (kdF j hj).1 (kdF j hj).2, rfl, rfl⟩
theorem rcT {N F T : Nat → Nat → Int32} {K : Nat → Int32} {A : Nat → Nat → Int32} {w : Int64} {j : Nat} (hj : j < 2) : rcv P 97 (cw P N F T K A w) (rT P j) RX2 := ⟨ik (1, j), 2, _, _, cw_get (1, j) (kdT j hj).1 (kdT j hj).2, rfl, rfl⟩
theorem rcX {N F T : Nat → Nat → Int32} {K : Nat → Int32} {A : Nat → Nat → Int32} {w : Int64} : rcv P 97 (cw P N F T K A w) (rX P) RX3 := ⟨ik (0, 0), 3, _, _, cw_get (0, 0) kdX.1 kdX.2, rfl, rfl⟩
theorem rcM {N F T : Nat → Nat → Int32} {K : Nat → Int32} {A : Nat → Nat → Int32} {w : Int64} : rcv P 97 (cw P N F T K A w) (rM P) RX4 := ⟨ik (8, 0), 4, _, _, cw_get (8, 0) kdM.1 kdM.2, rfl, rfl⟩
end VCalls
end
section
/-! what the instructions are, by program -/
theorem dX0_init_0 : decode cX0_init 0 = .ok (.aload_n 0, 1) := by decide +kernel
theorem dX0_init_1 : decode cX0_init 1 = .ok (.invokespecial 3, 3) := by decide +kernel
theorem dX0_init_4 : decode cX0_init 4 = .ok (.aload_n 0, 1) := by decide +kernel
theorem dX0_init_5 : decode cX0_init 5 = .ok (.bipush 20, 2) := by decide +kernel
theorem dX0_init_7 : decode cX0_init 7 = .ok (.putfield 9, 3) := by decide +kernel
theorem dX0_init_10 : decode cX0_init 10 = .ok (.aload_n 0, 1) := by decide +kernel
theorem dX0_init_11 : decode cX0_init 11 = .ok (.bipush 60, 2) := by decide +kernel
theorem dX0_init_13 : decode cX0_init 13 = .ok (.putfield 15, 3) := by decide +kernel
theorem dX0_init_16 : decode cX0_init 16 = .ok (.return_, 1) := by decide +kernel
theorem dX0_copyFrom_0 : decode cX0_copyFrom 0 = .ok (.aload_n 0, 1) := by decide +kernel
theorem dX0_copyFrom_1 : decode cX0_copyFrom 1 = .ok (.aload_n 1, 1) := by decide +kernel
theorem dX0_copyFrom_2 : decode cX0_copyFrom 2 = .ok (.getfield 9, 3) := by decide +kernel
theorem dX0_copyFrom_5 : decode cX0_copyFrom 5 = .ok (.putfield 9, 3) := by decide +kernel
theorem dX0_copyFrom_8 : decode cX0_copyFrom 8 = .ok (.aload_n 0, 1) := by decide +kernel
theorem dX0_copyFrom_9 : decode cX0_copyFrom 9 = .ok (.aload_n 1, 1) := by decide +kernel
theorem dX0_copyFrom_10 : decode cX0_copyFrom 10 = .ok (.getfield 15, 3) := by decide +kernel
theorem dX0_copyFrom_13 : decode cX0_copyFrom 13 = .ok (.putfield 15, 3) := by decide +kernel
theorem dX0_copyFrom_16 : decode cX0_copyFrom 16 = .ok (.aload_n 0, 1) := by decide +kernel
theorem dX0_copyFrom_17 : decode cX0_copyFrom 17 = .ok (.aload_n 1, 1) := by decide +kernel
theorem dX0_copyFrom_18 : decode cX0_copyFrom 18 = .ok (.getfield 18, 3) := by decide +kernel
theorem dX0_copyFrom_21 : decode cX0_copyFrom 21 = .ok (.putfield 18, 3) := by decide +kernel
theorem dX0_copyFrom_24 : decode cX0_copyFrom 24 = .ok (.aload_n 0, 1) := by decide +kernel
theorem dX0_copyFrom_25 : decode cX0_copyFrom 25 = .ok (.aload_n 1, 1) := by decide +kernel
theorem dX0_copyFrom_26 : decode cX0_copyFrom 26 = .ok (.getfield 21, 3) := by decide +kernel
theorem dX0_copyFrom_29 : decode cX0_copyFrom 29 = .ok (.putfield 21, 3) := by decide +kernel
theorem dX0_copyFrom_32 : decode cX0_copyFrom 32 = .ok (.aload_n 0, 1) := by decide +kernel
theorem dX0_copyFrom_33 : decode cX0_copyFrom 33 = .ok (.aload_n 1, 1) := by decide +kernel
theorem dX0_copyFrom_34 : decode cX0_copyFrom 34 = .ok (.getfield 24, 3) := by decide +kernel
theorem dX0_copyFrom_37 : decode cX0_copyFrom 37 = .ok (.putfield 24, 3) := by decide +kernel
theorem dX0_copyFrom_40 : decode cX0_copyFrom 40 = .ok (.aload_n 0, 1) := by decide +kernel
theorem dX0_copyFrom_41 : decode cX0_copyFrom 41 = .ok (.aload_n 1, 1) := by decide +kernel
theorem dX0_copyFrom_42 : decode cX0_copyFrom 42 = .ok (.getfield 27, 3) := by decide +kernel
theorem dX0_copyFrom_45 : decode cX0_copyFrom 45 = .ok (.putfield 27, 3) := by decide +kernel
theorem dX0_copyFrom_48 : decode cX0_copyFrom 48 = .ok (.return_, 1) := by decide +kernel
theorem dX0_buyBags_0 : decode cX0_buyBags 0 = .ok (.iconst 0, 1) := by decide +kernel
theorem dX0_buyBags_1 : decode cX0_buyBags 1 = .ok (.istore_n 2, 1) := by decide +kernel
theorem dX0_buyBags_2 : decode cX0_buyBags 2 = .ok (.iload_n 2, 1) := by decide +kernel
theorem dX0_buyBags_3 : decode cX0_buyBags 3 = .ok (.iconst 4, 1) := by decide +kernel
theorem dX0_buyBags_4 : decode cX0_buyBags 4 = .ok (.if_icmp .ge 110, 3) := by decide +kernel
theorem dX0_buyBags_7 : decode cX0_buyBags 7 = .ok (.getstatic 30, 3) := by decide +kernel
theorem dX0_buyBags_10 : decode cX0_buyBags 10 = .ok (.iload_n 2, 1) := by decide +kernel
theorem dX0_buyBags_11 : decode cX0_buyBags 11 = .ok (.iaload, 1) := by decide +kernel
theorem dX0_buyBags_12 : decode cX0_buyBags 12 = .ok (.bipush 100, 2) := by decide +kernel
theorem dX0_buyBags_14 : decode cX0_buyBags 14 = .ok (.aload_n 0, 1) := by decide +kernel
theorem dX0_buyBags_15 : decode cX0_buyBags 15 = .ok (.getfield 9, 3) := by decide +kernel
theorem dX0_buyBags_18 : decode cX0_buyBags 18 = .ok (.isub, 1) := by decide +kernel
theorem dX0_buyBags_19 : decode cX0_buyBags 19 = .ok (.imul, 1) := by decide +kernel
theorem dX0_buyBags_20 : decode cX0_buyBags 20 = .ok (.bipush 100, 2) := by decide +kernel
theorem dX0_buyBags_22 : decode cX0_buyBags 22 = .ok (.idiv, 1) := by decide +kernel
theorem dX0_buyBags_23 : decode cX0_buyBags 23 = .ok (.istore_n 3, 1) := by decide +kernel
theorem dX0_buyBags_24 : decode cX0_buyBags 24 = .ok (.aload_n 1, 1) := by decide +kernel
theorem dX0_buyBags_25 : decode cX0_buyBags 25 = .ok (.getfield 34, 3) := by decide +kernel
theorem dX0_buyBags_28 : decode cX0_buyBags 28 = .ok (.iload_n 2, 1) := by decide +kernel
theorem dX0_buyBags_29 : decode cX0_buyBags 29 = .ok (.iaload, 1) := by decide +kernel
theorem dX0_buyBags_30 : decode cX0_buyBags 30 = .ok (.ifCond .le 78, 3) := by decide +kernel
theorem dX0_buyBags_33 : decode cX0_buyBags 33 = .ok (.aload_n 0, 1) := by decide +kernel
theorem dX0_buyBags_34 : decode cX0_buyBags 34 = .ok (.getfield 15, 3) := by decide +kernel
theorem dX0_buyBags_37 : decode cX0_buyBags 37 = .ok (.iload_n 3, 1) := by decide +kernel
theorem dX0_buyBags_38 : decode cX0_buyBags 38 = .ok (.if_icmp .lt 70, 3) := by decide +kernel
theorem dX0_buyBags_41 : decode cX0_buyBags 41 = .ok (.aload_n 1, 1) := by decide +kernel
theorem dX0_buyBags_42 : decode cX0_buyBags 42 = .ok (.getfield 34, 3) := by decide +kernel
theorem dX0_buyBags_45 : decode cX0_buyBags 45 = .ok (.iload_n 2, 1) := by decide +kernel
theorem dX0_buyBags_46 : decode cX0_buyBags 46 = .ok (.dup2, 1) := by decide +kernel
theorem dX0_buyBags_47 : decode cX0_buyBags 47 = .ok (.iaload, 1) := by decide +kernel
theorem dX0_buyBags_48 : decode cX0_buyBags 48 = .ok (.iconst 1, 1) := by decide +kernel
theorem dX0_buyBags_49 : decode cX0_buyBags 49 = .ok (.isub, 1) := by decide +kernel
theorem dX0_buyBags_50 : decode cX0_buyBags 50 = .ok (.iastore, 1) := by decide +kernel
theorem dX0_buyBags_51 : decode cX0_buyBags 51 = .ok (.aload_n 1, 1) := by decide +kernel
theorem dX0_buyBags_52 : decode cX0_buyBags 52 = .ok (.dup, 1) := by decide +kernel
theorem dX0_buyBags_53 : decode cX0_buyBags 53 = .ok (.getfield 39, 3) := by decide +kernel
theorem dX0_buyBags_56 : decode cX0_buyBags 56 = .ok (.iload_n 3, 1) := by decide +kernel
theorem dX0_buyBags_57 : decode cX0_buyBags 57 = .ok (.iadd, 1) := by decide +kernel
theorem dX0_buyBags_58 : decode cX0_buyBags 58 = .ok (.putfield 39, 3) := by decide +kernel
theorem dX0_buyBags_61 : decode cX0_buyBags 61 = .ok (.aload_n 0, 1) := by decide +kernel
theorem dX0_buyBags_62 : decode cX0_buyBags 62 = .ok (.dup, 1) := by decide +kernel
theorem dX0_buyBags_63 : decode cX0_buyBags 63 = .ok (.getfield 15, 3) := by decide +kernel
theorem dX0_buyBags_66 : decode cX0_buyBags 66 = .ok (.iload_n 3, 1) := by decide +kernel
theorem dX0_buyBags_67 : decode cX0_buyBags 67 = .ok (.isub, 1) := by decide +kernel
theorem dX0_buyBags_68 : decode cX0_buyBags 68 = .ok (.putfield 15, 3) := by decide +kernel
theorem dX0_buyBags_71 : decode cX0_buyBags 71 = .ok (.aload_n 0, 1) := by decide +kernel
theorem dX0_buyBags_72 : decode cX0_buyBags 72 = .ok (.dup, 1) := by decide +kernel
theorem dX0_buyBags_73 : decode cX0_buyBags 73 = .ok (.getfield 21, 3) := by decide +kernel
theorem dX0_buyBags_76 : decode cX0_buyBags 76 = .ok (.iload_n 3, 1) := by decide +kernel
theorem dX0_buyBags_77 : decode cX0_buyBags 77 = .ok (.iadd, 1) := by decide +kernel
theorem dX0_buyBags_78 : decode cX0_buyBags 78 = .ok (.putfield 21, 3) := by decide +kernel
theorem dX0_buyBags_81 : decode cX0_buyBags 81 = .ok (.aload_n 0, 1) := by decide +kernel
theorem dX0_buyBags_82 : decode cX0_buyBags 82 = .ok (.dup, 1) := by decide +kernel
theorem dX0_buyBags_83 : decode cX0_buyBags 83 = .ok (.getfield 18, 3) := by decide +kernel
theorem dX0_buyBags_86 : decode cX0_buyBags 86 = .ok (.iconst 1, 1) := by decide +kernel
theorem dX0_buyBags_87 : decode cX0_buyBags 87 = .ok (.iadd, 1) := by decide +kernel
theorem dX0_buyBags_88 : decode cX0_buyBags 88 = .ok (.putfield 18, 3) := by decide +kernel
theorem dX0_buyBags_91 : decode cX0_buyBags 91 = .ok (.aload_n 0, 1) := by decide +kernel
theorem dX0_buyBags_92 : decode cX0_buyBags 92 = .ok (.dup, 1) := by decide +kernel
theorem dX0_buyBags_93 : decode cX0_buyBags 93 = .ok (.getfield 27, 3) := by decide +kernel
theorem dX0_buyBags_96 : decode cX0_buyBags 96 = .ok (.getstatic 30, 3) := by decide +kernel
theorem dX0_buyBags_99 : decode cX0_buyBags 99 = .ok (.iload_n 2, 1) := by decide +kernel
theorem dX0_buyBags_100 : decode cX0_buyBags 100 = .ok (.iaload, 1) := by decide +kernel
theorem dX0_buyBags_101 : decode cX0_buyBags 101 = .ok (.iadd, 1) := by decide +kernel
theorem dX0_buyBags_102 : decode cX0_buyBags 102 = .ok (.putfield 27, 3) := by decide +kernel
theorem dX0_buyBags_105 : decode cX0_buyBags 105 = .ok (.goto (-81), 3) := by decide +kernel
theorem dX0_buyBags_108 : decode cX0_buyBags 108 = .ok (.iinc 2 1, 3) := by decide +kernel
theorem dX0_buyBags_111 : decode cX0_buyBags 111 = .ok (.goto (-109), 3) := by decide +kernel
theorem dX0_buyBags_114 : decode cX0_buyBags 114 = .ok (.return_, 1) := by decide +kernel
theorem dX0_collectDebt_0 : decode cX0_collectDebt 0 = .ok (.aload_n 1, 1) := by decide +kernel
theorem dX0_collectDebt_1 : decode cX0_collectDebt 1 = .ok (.getfield 40, 3) := by decide +kernel
theorem dX0_collectDebt_4 : decode cX0_collectDebt 4 = .ok (.aload_n 1, 1) := by decide +kernel
theorem dX0_collectDebt_5 : decode cX0_collectDebt 5 = .ok (.getfield 39, 3) := by decide +kernel
theorem dX0_collectDebt_8 : decode cX0_collectDebt 8 = .ok (.invokestatic 43, 3) := by decide +kernel
theorem dX0_collectDebt_11 : decode cX0_collectDebt 11 = .ok (.istore_n 2, 1) := by decide +kernel
theorem dX0_collectDebt_12 : decode cX0_collectDebt 12 = .ok (.aload_n 1, 1) := by decide +kernel
theorem dX0_collectDebt_13 : decode cX0_collectDebt 13 = .ok (.dup, 1) := by decide +kernel
theorem dX0_collectDebt_14 : decode cX0_collectDebt 14 = .ok (.getfield 40, 3) := by decide +kernel
theorem dX0_collectDebt_17 : decode cX0_collectDebt 17 = .ok (.iload_n 2, 1) := by decide +kernel
theorem dX0_collectDebt_18 : decode cX0_collectDebt 18 = .ok (.isub, 1) := by decide +kernel
theorem dX0_collectDebt_19 : decode cX0_collectDebt 19 = .ok (.putfield 40, 3) := by decide +kernel
theorem dX0_collectDebt_22 : decode cX0_collectDebt 22 = .ok (.aload_n 1, 1) := by decide +kernel
theorem dX0_collectDebt_23 : decode cX0_collectDebt 23 = .ok (.dup, 1) := by decide +kernel
theorem dX0_collectDebt_24 : decode cX0_collectDebt 24 = .ok (.getfield 39, 3) := by decide +kernel
theorem dX0_collectDebt_27 : decode cX0_collectDebt 27 = .ok (.iload_n 2, 1) := by decide +kernel
theorem dX0_collectDebt_28 : decode cX0_collectDebt 28 = .ok (.isub, 1) := by decide +kernel
theorem dX0_collectDebt_29 : decode cX0_collectDebt 29 = .ok (.putfield 39, 3) := by decide +kernel
theorem dX0_collectDebt_32 : decode cX0_collectDebt 32 = .ok (.aload_n 0, 1) := by decide +kernel
theorem dX0_collectDebt_33 : decode cX0_collectDebt 33 = .ok (.dup, 1) := by decide +kernel
theorem dX0_collectDebt_34 : decode cX0_collectDebt 34 = .ok (.getfield 15, 3) := by decide +kernel
theorem dX0_collectDebt_37 : decode cX0_collectDebt 37 = .ok (.iload_n 2, 1) := by decide +kernel
theorem dX0_collectDebt_38 : decode cX0_collectDebt 38 = .ok (.iadd, 1) := by decide +kernel
theorem dX0_collectDebt_39 : decode cX0_collectDebt 39 = .ok (.putfield 15, 3) := by decide +kernel
theorem dX0_collectDebt_42 : decode cX0_collectDebt 42 = .ok (.return_, 1) := by decide +kernel
theorem dX0_deliver_0 : decode cX0_deliver 0 = .ok (.aload_n 0, 1) := by decide +kernel
theorem dX0_deliver_1 : decode cX0_deliver 1 = .ok (.dup, 1) := by decide +kernel
theorem dX0_deliver_2 : decode cX0_deliver 2 = .ok (.getfield 15, 3) := by decide +kernel
theorem dX0_deliver_5 : decode cX0_deliver 5 = .ok (.aload_n 0, 1) := by decide +kernel
theorem dX0_deliver_6 : decode cX0_deliver 6 = .ok (.getfield 27, 3) := by decide +kernel
theorem dX0_deliver_9 : decode cX0_deliver 9 = .ok (.iadd, 1) := by decide +kernel
theorem dX0_deliver_10 : decode cX0_deliver 10 = .ok (.putfield 15, 3) := by decide +kernel
theorem dX0_deliver_13 : decode cX0_deliver 13 = .ok (.aload_n 0, 1) := by decide +kernel
theorem dX0_deliver_14 : decode cX0_deliver 14 = .ok (.dup, 1) := by decide +kernel
theorem dX0_deliver_15 : decode cX0_deliver 15 = .ok (.getfield 24, 3) := by decide +kernel
theorem dX0_deliver_18 : decode cX0_deliver 18 = .ok (.aload_n 0, 1) := by decide +kernel
theorem dX0_deliver_19 : decode cX0_deliver 19 = .ok (.getfield 27, 3) := by decide +kernel
theorem dX0_deliver_22 : decode cX0_deliver 22 = .ok (.iadd, 1) := by decide +kernel
theorem dX0_deliver_23 : decode cX0_deliver 23 = .ok (.putfield 24, 3) := by decide +kernel
theorem dX0_deliver_26 : decode cX0_deliver 26 = .ok (.aload_n 0, 1) := by decide +kernel
theorem dX0_deliver_27 : decode cX0_deliver 27 = .ok (.iconst 0, 1) := by decide +kernel
theorem dX0_deliver_28 : decode cX0_deliver 28 = .ok (.putfield 27, 3) := by decide +kernel
theorem dX0_deliver_31 : decode cX0_deliver 31 = .ok (.return_, 1) := by decide +kernel
theorem dX1_init_0 : decode cX1_init 0 = .ok (.aload_n 0, 1) := by decide +kernel
theorem dX1_init_1 : decode cX1_init 1 = .ok (.invokespecial 3, 3) := by decide +kernel
theorem dX1_init_4 : decode cX1_init 4 = .ok (.aload_n 0, 1) := by decide +kernel
theorem dX1_init_5 : decode cX1_init 5 = .ok (.bipush 10, 2) := by decide +kernel
theorem dX1_init_7 : decode cX1_init 7 = .ok (.putfield 9, 3) := by decide +kernel
theorem dX1_init_10 : decode cX1_init 10 = .ok (.aload_n 0, 1) := by decide +kernel
theorem dX1_init_11 : decode cX1_init 11 = .ok (.iconst 5, 1) := by decide +kernel
theorem dX1_init_12 : decode cX1_init 12 = .ok (.putfield 15, 3) := by decide +kernel
theorem dX1_init_15 : decode cX1_init 15 = .ok (.aload_n 0, 1) := by decide +kernel
theorem dX1_init_16 : decode cX1_init 16 = .ok (.iconst 4, 1) := by decide +kernel
theorem dX1_init_17 : decode cX1_init 17 = .ok (.newarray .int, 2) := by decide +kernel
theorem dX1_init_19 : decode cX1_init 19 = .ok (.putfield 18, 3) := by decide +kernel
theorem dX1_init_22 : decode cX1_init 22 = .ok (.aload_n 0, 1) := by decide +kernel
theorem dX1_init_23 : decode cX1_init 23 = .ok (.iconst 4, 1) := by decide +kernel
theorem dX1_init_24 : decode cX1_init 24 = .ok (.newarray .int, 2) := by decide +kernel
theorem dX1_init_26 : decode cX1_init 26 = .ok (.putfield 22, 3) := by decide +kernel
theorem dX1_init_29 : decode cX1_init 29 = .ok (.return_, 1) := by decide +kernel
theorem dX1_begin_0 : decode cX1_begin 0 = .ok (.aload_n 0, 1) := by decide +kernel
theorem dX1_begin_1 : decode cX1_begin 1 = .ok (.iload_n 1, 1) := by decide +kernel
theorem dX1_begin_2 : decode cX1_begin 2 = .ok (.putfield 25, 3) := by decide +kernel
theorem dX1_begin_5 : decode cX1_begin 5 = .ok (.aload_n 0, 1) := by decide +kernel
theorem dX1_begin_6 : decode cX1_begin 6 = .ok (.iload_n 2, 1) := by decide +kernel
theorem dX1_begin_7 : decode cX1_begin 7 = .ok (.putfield 28, 3) := by decide +kernel
theorem dX1_begin_10 : decode cX1_begin 10 = .ok (.aload_n 0, 1) := by decide +kernel
theorem dX1_begin_11 : decode cX1_begin 11 = .ok (.iload_n 3, 1) := by decide +kernel
theorem dX1_begin_12 : decode cX1_begin 12 = .ok (.putfield 31, 3) := by decide +kernel
theorem dX1_begin_15 : decode cX1_begin 15 = .ok (.return_, 1) := by decide +kernel
theorem dX1_copyFrom_0 : decode cX1_copyFrom 0 = .ok (.aload_n 0, 1) := by decide +kernel
theorem dX1_copyFrom_1 : decode cX1_copyFrom 1 = .ok (.aload_n 1, 1) := by decide +kernel
theorem dX1_copyFrom_2 : decode cX1_copyFrom 2 = .ok (.getfield 25, 3) := by decide +kernel
theorem dX1_copyFrom_5 : decode cX1_copyFrom 5 = .ok (.putfield 25, 3) := by decide +kernel
theorem dX1_copyFrom_8 : decode cX1_copyFrom 8 = .ok (.aload_n 0, 1) := by decide +kernel
theorem dX1_copyFrom_9 : decode cX1_copyFrom 9 = .ok (.aload_n 1, 1) := by decide +kernel
theorem dX1_copyFrom_10 : decode cX1_copyFrom 10 = .ok (.getfield 28, 3) := by decide +kernel
theorem dX1_copyFrom_13 : decode cX1_copyFrom 13 = .ok (.putfield 28, 3) := by decide +kernel
theorem dX1_copyFrom_16 : decode cX1_copyFrom 16 = .ok (.aload_n 0, 1) := by decide +kernel
theorem dX1_copyFrom_17 : decode cX1_copyFrom 17 = .ok (.aload_n 1, 1) := by decide +kernel
theorem dX1_copyFrom_18 : decode cX1_copyFrom 18 = .ok (.getfield 31, 3) := by decide +kernel
theorem dX1_copyFrom_21 : decode cX1_copyFrom 21 = .ok (.putfield 31, 3) := by decide +kernel
theorem dX1_copyFrom_24 : decode cX1_copyFrom 24 = .ok (.aload_n 0, 1) := by decide +kernel
theorem dX1_copyFrom_25 : decode cX1_copyFrom 25 = .ok (.aload_n 1, 1) := by decide +kernel
theorem dX1_copyFrom_26 : decode cX1_copyFrom 26 = .ok (.getfield 34, 3) := by decide +kernel
theorem dX1_copyFrom_29 : decode cX1_copyFrom 29 = .ok (.putfield 34, 3) := by decide +kernel
theorem dX1_copyFrom_32 : decode cX1_copyFrom 32 = .ok (.aload_n 0, 1) := by decide +kernel
theorem dX1_copyFrom_33 : decode cX1_copyFrom 33 = .ok (.aload_n 1, 1) := by decide +kernel
theorem dX1_copyFrom_34 : decode cX1_copyFrom 34 = .ok (.getfield 37, 3) := by decide +kernel
theorem dX1_copyFrom_37 : decode cX1_copyFrom 37 = .ok (.putfield 37, 3) := by decide +kernel
theorem dX1_copyFrom_40 : decode cX1_copyFrom 40 = .ok (.aload_n 0, 1) := by decide +kernel
theorem dX1_copyFrom_41 : decode cX1_copyFrom 41 = .ok (.aload_n 1, 1) := by decide +kernel
theorem dX1_copyFrom_42 : decode cX1_copyFrom 42 = .ok (.getfield 40, 3) := by decide +kernel
theorem dX1_copyFrom_45 : decode cX1_copyFrom 45 = .ok (.putfield 40, 3) := by decide +kernel
theorem dX1_copyFrom_48 : decode cX1_copyFrom 48 = .ok (.aload_n 0, 1) := by decide +kernel
theorem dX1_copyFrom_49 : decode cX1_copyFrom 49 = .ok (.aload_n 1, 1) := by decide +kernel
theorem dX1_copyFrom_50 : decode cX1_copyFrom 50 = .ok (.getfield 9, 3) := by decide +kernel
theorem dX1_copyFrom_53 : decode cX1_copyFrom 53 = .ok (.putfield 9, 3) := by decide +kernel
theorem dX1_copyFrom_56 : decode cX1_copyFrom 56 = .ok (.aload_n 0, 1) := by decide +kernel
theorem dX1_copyFrom_57 : decode cX1_copyFrom 57 = .ok (.aload_n 1, 1) := by decide +kernel
theorem dX1_copyFrom_58 : decode cX1_copyFrom 58 = .ok (.getfield 15, 3) := by decide +kernel
theorem dX1_copyFrom_61 : decode cX1_copyFrom 61 = .ok (.putfield 15, 3) := by decide +kernel
theorem dX1_copyFrom_64 : decode cX1_copyFrom 64 = .ok (.aload_n 0, 1) := by decide +kernel
theorem dX1_copyFrom_65 : decode cX1_copyFrom 65 = .ok (.aload_n 1, 1) := by decide +kernel
theorem dX1_copyFrom_66 : decode cX1_copyFrom 66 = .ok (.getfield 43, 3) := by decide +kernel
theorem dX1_copyFrom_69 : decode cX1_copyFrom 69 = .ok (.putfield 43, 3) := by decide +kernel
theorem dX1_copyFrom_72 : decode cX1_copyFrom 72 = .ok (.aload_n 0, 1) := by decide +kernel
theorem dX1_copyFrom_73 : decode cX1_copyFrom 73 = .ok (.aload_n 1, 1) := by decide +kernel
theorem dX1_copyFrom_74 : decode cX1_copyFrom 74 = .ok (.getfield 46, 3) := by decide +kernel
theorem dX1_copyFrom_77 : decode cX1_copyFrom 77 = .ok (.putfield 46, 3) := by decide +kernel
theorem dX1_copyFrom_80 : decode cX1_copyFrom 80 = .ok (.aload_n 0, 1) := by decide +kernel
theorem dX1_copyFrom_81 : decode cX1_copyFrom 81 = .ok (.aload_n 1, 1) := by decide +kernel
theorem dX1_copyFrom_82 : decode cX1_copyFrom 82 = .ok (.getfield 49, 3) := by decide +kernel
theorem dX1_copyFrom_85 : decode cX1_copyFrom 85 = .ok (.putfield 49, 3) := by decide +kernel
theorem dX1_copyFrom_88 : decode cX1_copyFrom 88 = .ok (.aload_n 0, 1) := by decide +kernel
theorem dX1_copyFrom_89 : decode cX1_copyFrom 89 = .ok (.aload_n 1, 1) := by decide +kernel
theorem dX1_copyFrom_90 : decode cX1_copyFrom 90 = .ok (.getfield 52, 3) := by decide +kernel
theorem dX1_copyFrom_93 : decode cX1_copyFrom 93 = .ok (.putfield 52, 3) := by decide +kernel
theorem dX1_copyFrom_96 : decode cX1_copyFrom 96 = .ok (.iconst 0, 1) := by decide +kernel
theorem dX1_copyFrom_97 : decode cX1_copyFrom 97 = .ok (.istore_n 2, 1) := by decide +kernel
theorem dX1_copyFrom_98 : decode cX1_copyFrom 98 = .ok (.iload_n 2, 1) := by decide +kernel
theorem dX1_copyFrom_99 : decode cX1_copyFrom 99 = .ok (.iconst 4, 1) := by decide +kernel
theorem dX1_copyFrom_100 : decode cX1_copyFrom 100 = .ok (.if_icmp .ge 33, 3) := by decide +kernel
theorem dX1_copyFrom_103 : decode cX1_copyFrom 103 = .ok (.aload_n 0, 1) := by decide +kernel
theorem dX1_copyFrom_104 : decode cX1_copyFrom 104 = .ok (.getfield 18, 3) := by decide +kernel
theorem dX1_copyFrom_107 : decode cX1_copyFrom 107 = .ok (.iload_n 2, 1) := by decide +kernel
theorem dX1_copyFrom_108 : decode cX1_copyFrom 108 = .ok (.aload_n 1, 1) := by decide +kernel
theorem dX1_copyFrom_109 : decode cX1_copyFrom 109 = .ok (.getfield 18, 3) := by decide +kernel
theorem dX1_copyFrom_112 : decode cX1_copyFrom 112 = .ok (.iload_n 2, 1) := by decide +kernel
theorem dX1_copyFrom_113 : decode cX1_copyFrom 113 = .ok (.iaload, 1) := by decide +kernel
theorem dX1_copyFrom_114 : decode cX1_copyFrom 114 = .ok (.iastore, 1) := by decide +kernel
theorem dX1_copyFrom_115 : decode cX1_copyFrom 115 = .ok (.aload_n 0, 1) := by decide +kernel
theorem dX1_copyFrom_116 : decode cX1_copyFrom 116 = .ok (.getfield 22, 3) := by decide +kernel
theorem dX1_copyFrom_119 : decode cX1_copyFrom 119 = .ok (.iload_n 2, 1) := by decide +kernel
theorem dX1_copyFrom_120 : decode cX1_copyFrom 120 = .ok (.aload_n 1, 1) := by decide +kernel
theorem dX1_copyFrom_121 : decode cX1_copyFrom 121 = .ok (.getfield 22, 3) := by decide +kernel
theorem dX1_copyFrom_124 : decode cX1_copyFrom 124 = .ok (.iload_n 2, 1) := by decide +kernel
theorem dX1_copyFrom_125 : decode cX1_copyFrom 125 = .ok (.iaload, 1) := by decide +kernel
theorem dX1_copyFrom_126 : decode cX1_copyFrom 126 = .ok (.iastore, 1) := by decide +kernel
theorem dX1_copyFrom_127 : decode cX1_copyFrom 127 = .ok (.iinc 2 1, 3) := by decide +kernel
theorem dX1_copyFrom_130 : decode cX1_copyFrom 130 = .ok (.goto (-32), 3) := by decide +kernel
theorem dX1_copyFrom_133 : decode cX1_copyFrom 133 = .ok (.return_, 1) := by decide +kernel
theorem dX1_workHours_0 : decode cX1_workHours 0 = .ok (.iconst 0, 1) := by decide +kernel
theorem dX1_workHours_1 : decode cX1_workHours 1 = .ok (.istore_n 2, 1) := by decide +kernel
theorem dX1_workHours_2 : decode cX1_workHours 2 = .ok (.iconst 0, 1) := by decide +kernel
theorem dX1_workHours_3 : decode cX1_workHours 3 = .ok (.istore_n 3, 1) := by decide +kernel
theorem dX1_workHours_4 : decode cX1_workHours 4 = .ok (.iload_n 3, 1) := by decide +kernel
theorem dX1_workHours_5 : decode cX1_workHours 5 = .ok (.iload_n 1, 1) := by decide +kernel
theorem dX1_workHours_6 : decode cX1_workHours 6 = .ok (.if_icmp .ge 16, 3) := by decide +kernel
theorem dX1_workHours_9 : decode cX1_workHours 9 = .ok (.iload_n 2, 1) := by decide +kernel
theorem dX1_workHours_10 : decode cX1_workHours 10 = .ok (.aload_n 0, 1) := by decide +kernel
theorem dX1_workHours_11 : decode cX1_workHours 11 = .ok (.invokevirtual 55, 3) := by decide +kernel
theorem dX1_workHours_14 : decode cX1_workHours 14 = .ok (.iadd, 1) := by decide +kernel
theorem dX1_workHours_15 : decode cX1_workHours 15 = .ok (.istore_n 2, 1) := by decide +kernel
theorem dX1_workHours_16 : decode cX1_workHours 16 = .ok (.iinc 3 1, 3) := by decide +kernel
theorem dX1_workHours_19 : decode cX1_workHours 19 = .ok (.goto (-15), 3) := by decide +kernel
theorem dX1_workHours_22 : decode cX1_workHours 22 = .ok (.iload_n 2, 1) := by decide +kernel
theorem dX1_workHours_23 : decode cX1_workHours 23 = .ok (.ireturn, 1) := by decide +kernel
theorem dX1_workHour_0 : decode cX1_workHour 0 = .ok (.aload_n 0, 1) := by decide +kernel
theorem dX1_workHour_1 : decode cX1_workHour 1 = .ok (.invokevirtual 59, 3) := by decide +kernel
theorem dX1_workHour_4 : decode cX1_workHour 4 = .ok (.aload_n 0, 1) := by decide +kernel
theorem dX1_workHour_5 : decode cX1_workHour 5 = .ok (.getfield 40, 3) := by decide +kernel
theorem dX1_workHour_8 : decode cX1_workHour 8 = .ok (.iconst 4, 1) := by decide +kernel
theorem dX1_workHour_9 : decode cX1_workHour 9 = .ok (.if_icmp .ge 5, 3) := by decide +kernel
theorem dX1_workHour_12 : decode cX1_workHour 12 = .ok (.iconst 0, 1) := by decide +kernel
theorem dX1_workHour_13 : decode cX1_workHour 13 = .ok (.ireturn, 1) := by decide +kernel
theorem dX1_workHour_14 : decode cX1_workHour 14 = .ok (.aload_n 0, 1) := by decide +kernel
theorem dX1_workHour_15 : decode cX1_workHour 15 = .ok (.aload_n 0, 1) := by decide +kernel
theorem dX1_workHour_16 : decode cX1_workHour 16 = .ok (.getfield 25, 3) := by decide +kernel
theorem dX1_workHour_19 : decode cX1_workHour 19 = .ok (.aload_n 0, 1) := by decide +kernel
theorem dX1_workHour_20 : decode cX1_workHour 20 = .ok (.getfield 40, 3) := by decide +kernel
theorem dX1_workHour_23 : decode cX1_workHour 23 = .ok (.imul, 1) := by decide +kernel
theorem dX1_workHour_24 : decode cX1_workHour 24 = .ok (.iconst 2, 1) := by decide +kernel
theorem dX1_workHour_25 : decode cX1_workHour 25 = .ok (.imul, 1) := by decide +kernel
theorem dX1_workHour_26 : decode cX1_workHour 26 = .ok (.aload_n 0, 1) := by decide +kernel
theorem dX1_workHour_27 : decode cX1_workHour 27 = .ok (.getfield 28, 3) := by decide +kernel
theorem dX1_workHour_30 : decode cX1_workHour 30 = .ok (.iconst 1, 1) := by decide +kernel
theorem dX1_workHour_31 : decode cX1_workHour 31 = .ok (.iadd, 1) := by decide +kernel
theorem dX1_workHour_32 : decode cX1_workHour 32 = .ok (.idiv, 1) := by decide +kernel
theorem dX1_workHour_33 : decode cX1_workHour 33 = .ok (.invokevirtual 62, 3) := by decide +kernel
theorem dX1_workHour_36 : decode cX1_workHour 36 = .ok (.istore_n 1, 1) := by decide +kernel
theorem dX1_workHour_37 : decode cX1_workHour 37 = .ok (.aload_n 0, 1) := by decide +kernel
theorem dX1_workHour_38 : decode cX1_workHour 38 = .ok (.getfield 40, 3) := by decide +kernel
theorem dX1_workHour_41 : decode cX1_workHour 41 = .ok (.bipush 8, 2) := by decide +kernel
theorem dX1_workHour_43 : decode cX1_workHour 43 = .ok (.if_icmp .lt 10, 3) := by decide +kernel
theorem dX1_workHour_46 : decode cX1_workHour 46 = .ok (.iload_n 1, 1) := by decide +kernel
theorem dX1_workHour_47 : decode cX1_workHour 47 = .ok (.bipush 10, 2) := by decide +kernel
theorem dX1_workHour_49 : decode cX1_workHour 49 = .ok (.idiv, 1) := by decide +kernel
theorem dX1_workHour_50 : decode cX1_workHour 50 = .ok (.goto 4, 3) := by decide +kernel
theorem dX1_workHour_53 : decode cX1_workHour 53 = .ok (.iconst 0, 1) := by decide +kernel
theorem dX1_workHour_54 : decode cX1_workHour 54 = .ok (.istore_n 2, 1) := by decide +kernel
theorem dX1_workHour_55 : decode cX1_workHour 55 = .ok (.aload_n 0, 1) := by decide +kernel
theorem dX1_workHour_56 : decode cX1_workHour 56 = .ok (.dup, 1) := by decide +kernel
theorem dX1_workHour_57 : decode cX1_workHour 57 = .ok (.getfield 49, 3) := by decide +kernel
theorem dX1_workHour_60 : decode cX1_workHour 60 = .ok (.iload_n 2, 1) := by decide +kernel
theorem dX1_workHour_61 : decode cX1_workHour 61 = .ok (.iadd, 1) := by decide +kernel
theorem dX1_workHour_62 : decode cX1_workHour 62 = .ok (.putfield 49, 3) := by decide +kernel
theorem dX1_workHour_65 : decode cX1_workHour 65 = .ok (.aload_n 0, 1) := by decide +kernel
theorem dX1_workHour_66 : decode cX1_workHour 66 = .ok (.iload_n 1, 1) := by decide +kernel
theorem dX1_workHour_67 : decode cX1_workHour 67 = .ok (.iload_n 2, 1) := by decide +kernel
theorem dX1_workHour_68 : decode cX1_workHour 68 = .ok (.isub, 1) := by decide +kernel
theorem dX1_workHour_69 : decode cX1_workHour 69 = .ok (.invokevirtual 66, 3) := by decide +kernel
theorem dX1_workHour_72 : decode cX1_workHour 72 = .ok (.iload_n 1, 1) := by decide +kernel
theorem dX1_workHour_73 : decode cX1_workHour 73 = .ok (.iload_n 2, 1) := by decide +kernel
theorem dX1_workHour_74 : decode cX1_workHour 74 = .ok (.isub, 1) := by decide +kernel
theorem dX1_workHour_75 : decode cX1_workHour 75 = .ok (.ireturn, 1) := by decide +kernel
theorem dX1_tendFire_0 : decode cX1_tendFire 0 = .ok (.aload_n 0, 1) := by decide +kernel
theorem dX1_tendFire_1 : decode cX1_tendFire 1 = .ok (.getfield 9, 3) := by decide +kernel
theorem dX1_tendFire_4 : decode cX1_tendFire 4 = .ok (.ifCond .le 31, 3) := by decide +kernel
theorem dX1_tendFire_7 : decode cX1_tendFire 7 = .ok (.aload_n 0, 1) := by decide +kernel
theorem dX1_tendFire_8 : decode cX1_tendFire 8 = .ok (.dup, 1) := by decide +kernel
theorem dX1_tendFire_9 : decode cX1_tendFire 9 = .ok (.getfield 9, 3) := by decide +kernel
theorem dX1_tendFire_12 : decode cX1_tendFire 12 = .ok (.iconst 1, 1) := by decide +kernel
theorem dX1_tendFire_13 : decode cX1_tendFire 13 = .ok (.isub, 1) := by decide +kernel
theorem dX1_tendFire_14 : decode cX1_tendFire 14 = .ok (.putfield 9, 3) := by decide +kernel
theorem dX1_tendFire_17 : decode cX1_tendFire 17 = .ok (.aload_n 0, 1) := by decide +kernel
theorem dX1_tendFire_18 : decode cX1_tendFire 18 = .ok (.aload_n 0, 1) := by decide +kernel
theorem dX1_tendFire_19 : decode cX1_tendFire 19 = .ok (.getfield 40, 3) := by decide +kernel
theorem dX1_tendFire_22 : decode cX1_tendFire 22 = .ok (.iconst 2, 1) := by decide +kernel
theorem dX1_tendFire_23 : decode cX1_tendFire 23 = .ok (.iadd, 1) := by decide +kernel
theorem dX1_tendFire_24 : decode cX1_tendFire 24 = .ok (.bipush 9, 2) := by decide +kernel
theorem dX1_tendFire_26 : decode cX1_tendFire 26 = .ok (.invokestatic 70, 3) := by decide +kernel
theorem dX1_tendFire_29 : decode cX1_tendFire 29 = .ok (.putfield 40, 3) := by decide +kernel
theorem dX1_tendFire_32 : decode cX1_tendFire 32 = .ok (.goto 17, 3) := by decide +kernel
theorem dX1_tendFire_35 : decode cX1_tendFire 35 = .ok (.aload_n 0, 1) := by decide +kernel
theorem dX1_tendFire_36 : decode cX1_tendFire 36 = .ok (.aload_n 0, 1) := by decide +kernel
theorem dX1_tendFire_37 : decode cX1_tendFire 37 = .ok (.getfield 40, 3) := by decide +kernel
theorem dX1_tendFire_40 : decode cX1_tendFire 40 = .ok (.iconst 3, 1) := by decide +kernel
theorem dX1_tendFire_41 : decode cX1_tendFire 41 = .ok (.isub, 1) := by decide +kernel
theorem dX1_tendFire_42 : decode cX1_tendFire 42 = .ok (.iconst 0, 1) := by decide +kernel
theorem dX1_tendFire_43 : decode cX1_tendFire 43 = .ok (.invokestatic 76, 3) := by decide +kernel
theorem dX1_tendFire_46 : decode cX1_tendFire 46 = .ok (.putfield 40, 3) := by decide +kernel
theorem dX1_tendFire_49 : decode cX1_tendFire 49 = .ok (.return_, 1) := by decide +kernel
theorem dX1_head_0 : decode cX1_head 0 = .ok (.aload_n 0, 1) := by decide +kernel
theorem dX1_head_1 : decode cX1_head 1 = .ok (.iload_n 1, 1) := by decide +kernel
theorem dX1_head_2 : decode cX1_head 2 = .ok (.invokevirtual 79, 3) := by decide +kernel
theorem dX1_head_5 : decode cX1_head 5 = .ok (.istore_n 2, 1) := by decide +kernel
theorem dX1_head_6 : decode cX1_head 6 = .ok (.iload_n 2, 1) := by decide +kernel
theorem dX1_head_7 : decode cX1_head 7 = .ok (.iload_n 1, 1) := by decide +kernel
theorem dX1_head_8 : decode cX1_head 8 = .ok (.if_icmp .ge 53, 3) := by decide +kernel
theorem dX1_head_11 : decode cX1_head 11 = .ok (.aload_n 0, 1) := by decide +kernel
theorem dX1_head_12 : decode cX1_head 12 = .ok (.getfield 34, 3) := by decide +kernel
theorem dX1_head_15 : decode cX1_head 15 = .ok (.ifCond .le 46, 3) := by decide +kernel
theorem dX1_head_18 : decode cX1_head 18 = .ok (.aload_n 0, 1) := by decide +kernel
theorem dX1_head_19 : decode cX1_head 19 = .ok (.dup, 1) := by decide +kernel
theorem dX1_head_20 : decode cX1_head 20 = .ok (.getfield 34, 3) := by decide +kernel
theorem dX1_head_23 : decode cX1_head 23 = .ok (.iconst 1, 1) := by decide +kernel
theorem dX1_head_24 : decode cX1_head 24 = .ok (.isub, 1) := by decide +kernel
theorem dX1_head_25 : decode cX1_head 25 = .ok (.putfield 34, 3) := by decide +kernel
theorem dX1_head_28 : decode cX1_head 28 = .ok (.aload_n 0, 1) := by decide +kernel
theorem dX1_head_29 : decode cX1_head 29 = .ok (.dup, 1) := by decide +kernel
theorem dX1_head_30 : decode cX1_head 30 = .ok (.getfield 46, 3) := by decide +kernel
theorem dX1_head_33 : decode cX1_head 33 = .ok (.aload_n 0, 1) := by decide +kernel
theorem dX1_head_34 : decode cX1_head 34 = .ok (.getfield 37, 3) := by decide +kernel
theorem dX1_head_37 : decode cX1_head 37 = .ok (.iadd, 1) := by decide +kernel
theorem dX1_head_38 : decode cX1_head 38 = .ok (.putfield 46, 3) := by decide +kernel
theorem dX1_head_41 : decode cX1_head 41 = .ok (.aload_n 0, 1) := by decide +kernel
theorem dX1_head_42 : decode cX1_head 42 = .ok (.sipush 240, 3) := by decide +kernel
theorem dX1_head_45 : decode cX1_head 45 = .ok (.putfield 37, 3) := by decide +kernel
theorem dX1_head_48 : decode cX1_head 48 = .ok (.iload_n 2, 1) := by decide +kernel
theorem dX1_head_49 : decode cX1_head 49 = .ok (.aload_n 0, 1) := by decide +kernel
theorem dX1_head_50 : decode cX1_head 50 = .ok (.iload_n 1, 1) := by decide +kernel
theorem dX1_head_51 : decode cX1_head 51 = .ok (.iload_n 2, 1) := by decide +kernel
theorem dX1_head_52 : decode cX1_head 52 = .ok (.isub, 1) := by decide +kernel
theorem dX1_head_53 : decode cX1_head 53 = .ok (.invokevirtual 79, 3) := by decide +kernel
theorem dX1_head_56 : decode cX1_head 56 = .ok (.iadd, 1) := by decide +kernel
theorem dX1_head_57 : decode cX1_head 57 = .ok (.istore_n 2, 1) := by decide +kernel
theorem dX1_head_58 : decode cX1_head 58 = .ok (.goto (-52), 3) := by decide +kernel
theorem dX1_head_61 : decode cX1_head 61 = .ok (.iload_n 2, 1) := by decide +kernel
theorem dX1_head_62 : decode cX1_head 62 = .ok (.ireturn, 1) := by decide +kernel
theorem dX1_headFromHand_0 : decode cX1_headFromHand 0 = .ok (.iload_n 1, 1) := by decide +kernel
theorem dX1_headFromHand_1 : decode cX1_headFromHand 1 = .ok (.aload_n 0, 1) := by decide +kernel
theorem dX1_headFromHand_2 : decode cX1_headFromHand 2 = .ok (.getfield 37, 3) := by decide +kernel
theorem dX1_headFromHand_5 : decode cX1_headFromHand 5 = .ok (.getstatic 82, 3) := by decide +kernel
theorem dX1_headFromHand_8 : decode cX1_headFromHand 8 = .ok (.aload_n 0, 1) := by decide +kernel
theorem dX1_headFromHand_9 : decode cX1_headFromHand 9 = .ok (.getfield 28, 3) := by decide +kernel
theorem dX1_headFromHand_12 : decode cX1_headFromHand 12 = .ok (.iaload, 1) := by decide +kernel
theorem dX1_headFromHand_13 : decode cX1_headFromHand 13 = .ok (.idiv, 1) := by decide +kernel
theorem dX1_headFromHand_14 : decode cX1_headFromHand 14 = .ok (.invokestatic 70, 3) := by decide +kernel
theorem dX1_headFromHand_17 : decode cX1_headFromHand 17 = .ok (.istore_n 2, 1) := by decide +kernel
theorem dX1_headFromHand_18 : decode cX1_headFromHand 18 = .ok (.aload_n 0, 1) := by decide +kernel
theorem dX1_headFromHand_19 : decode cX1_headFromHand 19 = .ok (.dup, 1) := by decide +kernel
theorem dX1_headFromHand_20 : decode cX1_headFromHand 20 = .ok (.getfield 37, 3) := by decide +kernel
theorem dX1_headFromHand_23 : decode cX1_headFromHand 23 = .ok (.iload_n 2, 1) := by decide +kernel
theorem dX1_headFromHand_24 : decode cX1_headFromHand 24 = .ok (.getstatic 82, 3) := by decide +kernel
theorem dX1_headFromHand_27 : decode cX1_headFromHand 27 = .ok (.aload_n 0, 1) := by decide +kernel
theorem dX1_headFromHand_28 : decode cX1_headFromHand 28 = .ok (.getfield 28, 3) := by decide +kernel
theorem dX1_headFromHand_31 : decode cX1_headFromHand 31 = .ok (.iaload, 1) := by decide +kernel
theorem dX1_headFromHand_32 : decode cX1_headFromHand 32 = .ok (.imul, 1) := by decide +kernel
theorem dX1_headFromHand_33 : decode cX1_headFromHand 33 = .ok (.isub, 1) := by decide +kernel
theorem dX1_headFromHand_34 : decode cX1_headFromHand 34 = .ok (.putfield 37, 3) := by decide +kernel
theorem dX1_headFromHand_37 : decode cX1_headFromHand 37 = .ok (.iload_n 2, 1) := by decide +kernel
theorem dX1_headFromHand_38 : decode cX1_headFromHand 38 = .ok (.ireturn, 1) := by decide +kernel
theorem dX1_store_0 : decode cX1_store 0 = .ok (.aload_n 0, 1) := by decide +kernel
theorem dX1_store_1 : decode cX1_store 1 = .ok (.dup, 1) := by decide +kernel
theorem dX1_store_2 : decode cX1_store 2 = .ok (.getfield 52, 3) := by decide +kernel
theorem dX1_store_5 : decode cX1_store 5 = .ok (.iload_n 1, 1) := by decide +kernel
theorem dX1_store_6 : decode cX1_store 6 = .ok (.iadd, 1) := by decide +kernel
theorem dX1_store_7 : decode cX1_store 7 = .ok (.putfield 52, 3) := by decide +kernel
theorem dX1_store_10 : decode cX1_store 10 = .ok (.aload_n 0, 1) := by decide +kernel
theorem dX1_store_11 : decode cX1_store 11 = .ok (.getfield 18, 3) := by decide +kernel
theorem dX1_store_14 : decode cX1_store 14 = .ok (.aload_n 0, 1) := by decide +kernel
theorem dX1_store_15 : decode cX1_store 15 = .ok (.getfield 28, 3) := by decide +kernel
theorem dX1_store_18 : decode cX1_store 18 = .ok (.dup2, 1) := by decide +kernel
theorem dX1_store_19 : decode cX1_store 19 = .ok (.iaload, 1) := by decide +kernel
theorem dX1_store_20 : decode cX1_store 20 = .ok (.iload_n 1, 1) := by decide +kernel
theorem dX1_store_21 : decode cX1_store 21 = .ok (.iadd, 1) := by decide +kernel
theorem dX1_store_22 : decode cX1_store 22 = .ok (.iastore, 1) := by decide +kernel
theorem dX1_store_23 : decode cX1_store 23 = .ok (.aload_n 0, 1) := by decide +kernel
theorem dX1_store_24 : decode cX1_store 24 = .ok (.getfield 22, 3) := by decide +kernel
theorem dX1_store_27 : decode cX1_store 27 = .ok (.aload_n 0, 1) := by decide +kernel
theorem dX1_store_28 : decode cX1_store 28 = .ok (.getfield 28, 3) := by decide +kernel
theorem dX1_store_31 : decode cX1_store 31 = .ok (.dup2, 1) := by decide +kernel
theorem dX1_store_32 : decode cX1_store 32 = .ok (.iaload, 1) := by decide +kernel
theorem dX1_store_33 : decode cX1_store 33 = .ok (.aload_n 0, 1) := by decide +kernel
theorem dX1_store_34 : decode cX1_store 34 = .ok (.getfield 18, 3) := by decide +kernel
theorem dX1_store_37 : decode cX1_store 37 = .ok (.aload_n 0, 1) := by decide +kernel
theorem dX1_store_38 : decode cX1_store 38 = .ok (.getfield 28, 3) := by decide +kernel
theorem dX1_store_41 : decode cX1_store 41 = .ok (.iaload, 1) := by decide +kernel
theorem dX1_store_42 : decode cX1_store 42 = .ok (.sipush 1000, 3) := by decide +kernel
theorem dX1_store_45 : decode cX1_store 45 = .ok (.idiv, 1) := by decide +kernel
theorem dX1_store_46 : decode cX1_store 46 = .ok (.iadd, 1) := by decide +kernel
theorem dX1_store_47 : decode cX1_store 47 = .ok (.iastore, 1) := by decide +kernel
theorem dX1_store_48 : decode cX1_store 48 = .ok (.aload_n 0, 1) := by decide +kernel
theorem dX1_store_49 : decode cX1_store 49 = .ok (.getfield 18, 3) := by decide +kernel
theorem dX1_store_52 : decode cX1_store 52 = .ok (.aload_n 0, 1) := by decide +kernel
theorem dX1_store_53 : decode cX1_store 53 = .ok (.getfield 28, 3) := by decide +kernel
theorem dX1_store_56 : decode cX1_store 56 = .ok (.dup2, 1) := by decide +kernel
theorem dX1_store_57 : decode cX1_store 57 = .ok (.iaload, 1) := by decide +kernel
theorem dX1_store_58 : decode cX1_store 58 = .ok (.sipush 1000, 3) := by decide +kernel
theorem dX1_store_61 : decode cX1_store 61 = .ok (.irem, 1) := by decide +kernel
theorem dX1_store_62 : decode cX1_store 62 = .ok (.iastore, 1) := by decide +kernel
theorem dX1_store_63 : decode cX1_store 63 = .ok (.return_, 1) := by decide +kernel
theorem dX1_number_0 : decode cX1_number 0 = .ok (.iload_n 1, 1) := by decide +kernel
theorem dX1_number_1 : decode cX1_number 1 = .ok (.tableswitch 114 0 10 #[59, 64, 69, 74, 79, 84, 89, 94, 99, 104, 109], 59) := by decide +kernel
theorem dX1_number_60 : decode cX1_number 60 = .ok (.aload_n 0, 1) := by decide +kernel
theorem dX1_number_61 : decode cX1_number 61 = .ok (.getfield 25, 3) := by decide +kernel
theorem dX1_number_64 : decode cX1_number 64 = .ok (.ireturn, 1) := by decide +kernel
theorem dX1_number_65 : decode cX1_number 65 = .ok (.aload_n 0, 1) := by decide +kernel
theorem dX1_number_66 : decode cX1_number 66 = .ok (.getfield 28, 3) := by decide +kernel
theorem dX1_number_69 : decode cX1_number 69 = .ok (.ireturn, 1) := by decide +kernel
theorem dX1_number_70 : decode cX1_number 70 = .ok (.aload_n 0, 1) := by decide +kernel
theorem dX1_number_71 : decode cX1_number 71 = .ok (.getfield 31, 3) := by decide +kernel
theorem dX1_number_74 : decode cX1_number 74 = .ok (.ireturn, 1) := by decide +kernel
theorem dX1_number_75 : decode cX1_number 75 = .ok (.aload_n 0, 1) := by decide +kernel
theorem dX1_number_76 : decode cX1_number 76 = .ok (.getfield 34, 3) := by decide +kernel
theorem dX1_number_79 : decode cX1_number 79 = .ok (.ireturn, 1) := by decide +kernel
theorem dX1_number_80 : decode cX1_number 80 = .ok (.aload_n 0, 1) := by decide +kernel
theorem dX1_number_81 : decode cX1_number 81 = .ok (.getfield 37, 3) := by decide +kernel
theorem dX1_number_84 : decode cX1_number 84 = .ok (.ireturn, 1) := by decide +kernel
theorem dX1_number_85 : decode cX1_number 85 = .ok (.aload_n 0, 1) := by decide +kernel
theorem dX1_number_86 : decode cX1_number 86 = .ok (.getfield 40, 3) := by decide +kernel
theorem dX1_number_89 : decode cX1_number 89 = .ok (.ireturn, 1) := by decide +kernel
theorem dX1_number_90 : decode cX1_number 90 = .ok (.aload_n 0, 1) := by decide +kernel
theorem dX1_number_91 : decode cX1_number 91 = .ok (.getfield 9, 3) := by decide +kernel
theorem dX1_number_94 : decode cX1_number 94 = .ok (.ireturn, 1) := by decide +kernel
theorem dX1_number_95 : decode cX1_number 95 = .ok (.aload_n 0, 1) := by decide +kernel
theorem dX1_number_96 : decode cX1_number 96 = .ok (.getfield 15, 3) := by decide +kernel
theorem dX1_number_99 : decode cX1_number 99 = .ok (.ireturn, 1) := by decide +kernel
theorem dX1_number_100 : decode cX1_number 100 = .ok (.aload_n 0, 1) := by decide +kernel
theorem dX1_number_101 : decode cX1_number 101 = .ok (.getfield 43, 3) := by decide +kernel
theorem dX1_number_104 : decode cX1_number 104 = .ok (.ireturn, 1) := by decide +kernel
theorem dX1_number_105 : decode cX1_number 105 = .ok (.aload_n 0, 1) := by decide +kernel
theorem dX1_number_106 : decode cX1_number 106 = .ok (.getfield 46, 3) := by decide +kernel
theorem dX1_number_109 : decode cX1_number 109 = .ok (.ireturn, 1) := by decide +kernel
theorem dX1_number_110 : decode cX1_number 110 = .ok (.aload_n 0, 1) := by decide +kernel
theorem dX1_number_111 : decode cX1_number 111 = .ok (.getfield 49, 3) := by decide +kernel
theorem dX1_number_114 : decode cX1_number 114 = .ok (.ireturn, 1) := by decide +kernel
theorem dX1_number_115 : decode cX1_number 115 = .ok (.aload_n 0, 1) := by decide +kernel
theorem dX1_number_116 : decode cX1_number 116 = .ok (.getfield 52, 3) := by decide +kernel
theorem dX1_number_119 : decode cX1_number 119 = .ok (.ireturn, 1) := by decide +kernel
theorem dX1_shareOfTotal_0 : decode cX1_shareOfTotal 0 = .ok (.iload_n 1, 1) := by decide +kernel
theorem dX1_shareOfTotal_1 : decode cX1_shareOfTotal 1 = .ok (.tableswitch 97 2 9 #[47, 61, 66, 74, 97, 82, 87, 92], 47) := by decide +kernel
theorem dX1_shareOfTotal_48 : decode cX1_shareOfTotal 48 = .ok (.aload_n 0, 1) := by decide +kernel
theorem dX1_shareOfTotal_49 : decode cX1_shareOfTotal 49 = .ok (.getfield 40, 3) := by decide +kernel
theorem dX1_shareOfTotal_52 : decode cX1_shareOfTotal 52 = .ok (.iconst 4, 1) := by decide +kernel
theorem dX1_shareOfTotal_53 : decode cX1_shareOfTotal 53 = .ok (.if_icmp .lt 7, 3) := by decide +kernel
theorem dX1_shareOfTotal_56 : decode cX1_shareOfTotal 56 = .ok (.iconst 1, 1) := by decide +kernel
theorem dX1_shareOfTotal_57 : decode cX1_shareOfTotal 57 = .ok (.goto 4, 3) := by decide +kernel
theorem dX1_shareOfTotal_60 : decode cX1_shareOfTotal 60 = .ok (.iconst 0, 1) := by decide +kernel
theorem dX1_shareOfTotal_61 : decode cX1_shareOfTotal 61 = .ok (.ireturn, 1) := by decide +kernel
theorem dX1_shareOfTotal_62 : decode cX1_shareOfTotal 62 = .ok (.aload_n 0, 1) := by decide +kernel
theorem dX1_shareOfTotal_63 : decode cX1_shareOfTotal 63 = .ok (.getfield 34, 3) := by decide +kernel
theorem dX1_shareOfTotal_66 : decode cX1_shareOfTotal 66 = .ok (.ireturn, 1) := by decide +kernel
theorem dX1_shareOfTotal_67 : decode cX1_shareOfTotal 67 = .ok (.aload_n 0, 1) := by decide +kernel
theorem dX1_shareOfTotal_68 : decode cX1_shareOfTotal 68 = .ok (.getfield 18, 3) := by decide +kernel
theorem dX1_shareOfTotal_71 : decode cX1_shareOfTotal 71 = .ok (.invokestatic 85, 3) := by decide +kernel
theorem dX1_shareOfTotal_74 : decode cX1_shareOfTotal 74 = .ok (.ireturn, 1) := by decide +kernel
theorem dX1_shareOfTotal_75 : decode cX1_shareOfTotal 75 = .ok (.aload_n 0, 1) := by decide +kernel
theorem dX1_shareOfTotal_76 : decode cX1_shareOfTotal 76 = .ok (.getfield 22, 3) := by decide +kernel
theorem dX1_shareOfTotal_79 : decode cX1_shareOfTotal 79 = .ok (.invokestatic 85, 3) := by decide +kernel
theorem dX1_shareOfTotal_82 : decode cX1_shareOfTotal 82 = .ok (.ireturn, 1) := by decide +kernel
theorem dX1_shareOfTotal_83 : decode cX1_shareOfTotal 83 = .ok (.aload_n 0, 1) := by decide +kernel
theorem dX1_shareOfTotal_84 : decode cX1_shareOfTotal 84 = .ok (.getfield 15, 3) := by decide +kernel
theorem dX1_shareOfTotal_87 : decode cX1_shareOfTotal 87 = .ok (.ireturn, 1) := by decide +kernel
theorem dX1_shareOfTotal_88 : decode cX1_shareOfTotal 88 = .ok (.aload_n 0, 1) := by decide +kernel
theorem dX1_shareOfTotal_89 : decode cX1_shareOfTotal 89 = .ok (.getfield 43, 3) := by decide +kernel
theorem dX1_shareOfTotal_92 : decode cX1_shareOfTotal 92 = .ok (.ireturn, 1) := by decide +kernel
theorem dX1_shareOfTotal_93 : decode cX1_shareOfTotal 93 = .ok (.aload_n 0, 1) := by decide +kernel
theorem dX1_shareOfTotal_94 : decode cX1_shareOfTotal 94 = .ok (.getfield 46, 3) := by decide +kernel
theorem dX1_shareOfTotal_97 : decode cX1_shareOfTotal 97 = .ok (.ireturn, 1) := by decide +kernel
theorem dX1_shareOfTotal_98 : decode cX1_shareOfTotal 98 = .ok (.aload_n 0, 1) := by decide +kernel
theorem dX1_shareOfTotal_99 : decode cX1_shareOfTotal 99 = .ok (.getfield 49, 3) := by decide +kernel
theorem dX1_shareOfTotal_102 : decode cX1_shareOfTotal 102 = .ok (.ireturn, 1) := by decide +kernel
theorem dX1_sumOf_0 : decode cX1_sumOf 0 = .ok (.iconst 0, 1) := by decide +kernel
theorem dX1_sumOf_1 : decode cX1_sumOf 1 = .ok (.istore_n 1, 1) := by decide +kernel
theorem dX1_sumOf_2 : decode cX1_sumOf 2 = .ok (.aload_n 0, 1) := by decide +kernel
theorem dX1_sumOf_3 : decode cX1_sumOf 3 = .ok (.astore_n 2, 1) := by decide +kernel
theorem dX1_sumOf_4 : decode cX1_sumOf 4 = .ok (.aload_n 2, 1) := by decide +kernel
theorem dX1_sumOf_5 : decode cX1_sumOf 5 = .ok (.arraylength, 1) := by decide +kernel
theorem dX1_sumOf_6 : decode cX1_sumOf 6 = .ok (.istore_n 3, 1) := by decide +kernel
theorem dX1_sumOf_7 : decode cX1_sumOf 7 = .ok (.iconst 0, 1) := by decide +kernel
theorem dX1_sumOf_8 : decode cX1_sumOf 8 = .ok (.istore 4, 2) := by decide +kernel
theorem dX1_sumOf_10 : decode cX1_sumOf 10 = .ok (.iload 4, 2) := by decide +kernel
theorem dX1_sumOf_12 : decode cX1_sumOf 12 = .ok (.iload_n 3, 1) := by decide +kernel
theorem dX1_sumOf_13 : decode cX1_sumOf 13 = .ok (.if_icmp .ge 20, 3) := by decide +kernel
theorem dX1_sumOf_16 : decode cX1_sumOf 16 = .ok (.aload_n 2, 1) := by decide +kernel
theorem dX1_sumOf_17 : decode cX1_sumOf 17 = .ok (.iload 4, 2) := by decide +kernel
theorem dX1_sumOf_19 : decode cX1_sumOf 19 = .ok (.iaload, 1) := by decide +kernel
theorem dX1_sumOf_20 : decode cX1_sumOf 20 = .ok (.istore 5, 2) := by decide +kernel
theorem dX1_sumOf_22 : decode cX1_sumOf 22 = .ok (.iload_n 1, 1) := by decide +kernel
theorem dX1_sumOf_23 : decode cX1_sumOf 23 = .ok (.iload 5, 2) := by decide +kernel
theorem dX1_sumOf_25 : decode cX1_sumOf 25 = .ok (.iadd, 1) := by decide +kernel
theorem dX1_sumOf_26 : decode cX1_sumOf 26 = .ok (.istore_n 1, 1) := by decide +kernel
theorem dX1_sumOf_27 : decode cX1_sumOf 27 = .ok (.iinc 4 1, 3) := by decide +kernel
theorem dX1_sumOf_30 : decode cX1_sumOf 30 = .ok (.goto (-20), 3) := by decide +kernel
theorem dX1_sumOf_33 : decode cX1_sumOf 33 = .ok (.iload_n 1, 1) := by decide +kernel
theorem dX1_sumOf_34 : decode cX1_sumOf 34 = .ok (.ireturn, 1) := by decide +kernel
theorem dX1_addToDigest_0 : decode cX1_addToDigest 0 = .ok (.lload_n 1, 1) := by decide +kernel
theorem dX1_addToDigest_1 : decode cX1_addToDigest 1 = .ok (.lstore_n 3, 1) := by decide +kernel
theorem dX1_addToDigest_2 : decode cX1_addToDigest 2 = .ok (.iconst 0, 1) := by decide +kernel
theorem dX1_addToDigest_3 : decode cX1_addToDigest 3 = .ok (.istore 5, 2) := by decide +kernel
theorem dX1_addToDigest_5 : decode cX1_addToDigest 5 = .ok (.iload 5, 2) := by decide +kernel
theorem dX1_addToDigest_7 : decode cX1_addToDigest 7 = .ok (.bipush 12, 2) := by decide +kernel
theorem dX1_addToDigest_9 : decode cX1_addToDigest 9 = .ok (.if_icmp .ge 23, 3) := by decide +kernel
theorem dX1_addToDigest_12 : decode cX1_addToDigest 12 = .ok (.lload_n 3, 1) := by decide +kernel
theorem dX1_addToDigest_13 : decode cX1_addToDigest 13 = .ok (.ldc2_w 89, 3) := by decide +kernel
theorem dX1_addToDigest_16 : decode cX1_addToDigest 16 = .ok (.lmul, 1) := by decide +kernel
theorem dX1_addToDigest_17 : decode cX1_addToDigest 17 = .ok (.aload_n 0, 1) := by decide +kernel
theorem dX1_addToDigest_18 : decode cX1_addToDigest 18 = .ok (.iload 5, 2) := by decide +kernel
theorem dX1_addToDigest_20 : decode cX1_addToDigest 20 = .ok (.invokevirtual 91, 3) := by decide +kernel
theorem dX1_addToDigest_23 : decode cX1_addToDigest 23 = .ok (.i2l, 1) := by decide +kernel
theorem dX1_addToDigest_24 : decode cX1_addToDigest 24 = .ok (.ladd, 1) := by decide +kernel
theorem dX1_addToDigest_25 : decode cX1_addToDigest 25 = .ok (.lstore_n 3, 1) := by decide +kernel
theorem dX1_addToDigest_26 : decode cX1_addToDigest 26 = .ok (.iinc 5 1, 3) := by decide +kernel
theorem dX1_addToDigest_29 : decode cX1_addToDigest 29 = .ok (.goto (-24), 3) := by decide +kernel
theorem dX1_addToDigest_32 : decode cX1_addToDigest 32 = .ok (.iconst 0, 1) := by decide +kernel
theorem dX1_addToDigest_33 : decode cX1_addToDigest 33 = .ok (.istore 5, 2) := by decide +kernel
theorem dX1_addToDigest_35 : decode cX1_addToDigest 35 = .ok (.iload 5, 2) := by decide +kernel
theorem dX1_addToDigest_37 : decode cX1_addToDigest 37 = .ok (.iconst 4, 1) := by decide +kernel
theorem dX1_addToDigest_38 : decode cX1_addToDigest 38 = .ok (.if_icmp .ge 39, 3) := by decide +kernel
theorem dX1_addToDigest_41 : decode cX1_addToDigest 41 = .ok (.lload_n 3, 1) := by decide +kernel
theorem dX1_addToDigest_42 : decode cX1_addToDigest 42 = .ok (.ldc2_w 89, 3) := by decide +kernel
theorem dX1_addToDigest_45 : decode cX1_addToDigest 45 = .ok (.lmul, 1) := by decide +kernel
theorem dX1_addToDigest_46 : decode cX1_addToDigest 46 = .ok (.aload_n 0, 1) := by decide +kernel
theorem dX1_addToDigest_47 : decode cX1_addToDigest 47 = .ok (.getfield 18, 3) := by decide +kernel
theorem dX1_addToDigest_50 : decode cX1_addToDigest 50 = .ok (.iload 5, 2) := by decide +kernel
theorem dX1_addToDigest_52 : decode cX1_addToDigest 52 = .ok (.iaload, 1) := by decide +kernel
theorem dX1_addToDigest_53 : decode cX1_addToDigest 53 = .ok (.i2l, 1) := by decide +kernel
theorem dX1_addToDigest_54 : decode cX1_addToDigest 54 = .ok (.ladd, 1) := by decide +kernel
theorem dX1_addToDigest_55 : decode cX1_addToDigest 55 = .ok (.lstore_n 3, 1) := by decide +kernel
theorem dX1_addToDigest_56 : decode cX1_addToDigest 56 = .ok (.lload_n 3, 1) := by decide +kernel
theorem dX1_addToDigest_57 : decode cX1_addToDigest 57 = .ok (.ldc2_w 89, 3) := by decide +kernel
theorem dX1_addToDigest_60 : decode cX1_addToDigest 60 = .ok (.lmul, 1) := by decide +kernel
theorem dX1_addToDigest_61 : decode cX1_addToDigest 61 = .ok (.aload_n 0, 1) := by decide +kernel
theorem dX1_addToDigest_62 : decode cX1_addToDigest 62 = .ok (.getfield 22, 3) := by decide +kernel
theorem dX1_addToDigest_65 : decode cX1_addToDigest 65 = .ok (.iload 5, 2) := by decide +kernel
theorem dX1_addToDigest_67 : decode cX1_addToDigest 67 = .ok (.iaload, 1) := by decide +kernel
theorem dX1_addToDigest_68 : decode cX1_addToDigest 68 = .ok (.i2l, 1) := by decide +kernel
theorem dX1_addToDigest_69 : decode cX1_addToDigest 69 = .ok (.ladd, 1) := by decide +kernel
theorem dX1_addToDigest_70 : decode cX1_addToDigest 70 = .ok (.lstore_n 3, 1) := by decide +kernel
theorem dX1_addToDigest_71 : decode cX1_addToDigest 71 = .ok (.iinc 5 1, 3) := by decide +kernel
theorem dX1_addToDigest_74 : decode cX1_addToDigest 74 = .ok (.goto (-39), 3) := by decide +kernel
theorem dX1_addToDigest_77 : decode cX1_addToDigest 77 = .ok (.lload_n 3, 1) := by decide +kernel
theorem dX1_addToDigest_78 : decode cX1_addToDigest 78 = .ok (.lreturn, 1) := by decide +kernel
end
section
/-! what the instructions are, by program -/
theorem dX2_init_0 : decode cX2_init 0 = .ok (.aload_n 0, 1) := by decide +kernel
theorem dX2_init_1 : decode cX2_init 1 = .ok (.invokespecial 3, 3) := by decide +kernel
theorem dX2_init_4 : decode cX2_init 4 = .ok (.aload_n 0, 1) := by decide +kernel
theorem dX2_init_5 : decode cX2_init 5 = .ok (.bipush 12, 2) := by decide +kernel
theorem dX2_init_7 : decode cX2_init 7 = .ok (.anewarray 9, 3) := by decide +kernel
theorem dX2_init_10 : decode cX2_init 10 = .ok (.putfield 11, 3) := by decide +kernel
theorem dX2_init_13 : decode cX2_init 13 = .ok (.iconst 0, 1) := by decide +kernel
theorem dX2_init_14 : decode cX2_init 14 = .ok (.istore_n 1, 1) := by decide +kernel
theorem dX2_init_15 : decode cX2_init 15 = .ok (.iload_n 1, 1) := by decide +kernel
theorem dX2_init_16 : decode cX2_init 16 = .ok (.bipush 12, 2) := by decide +kernel
theorem dX2_init_18 : decode cX2_init 18 = .ok (.if_icmp .ge 22, 3) := by decide +kernel
theorem dX2_init_21 : decode cX2_init 21 = .ok (.aload_n 0, 1) := by decide +kernel
theorem dX2_init_22 : decode cX2_init 22 = .ok (.getfield 11, 3) := by decide +kernel
theorem dX2_init_25 : decode cX2_init 25 = .ok (.iload_n 1, 1) := by decide +kernel
theorem dX2_init_26 : decode cX2_init 26 = .ok (.new 9, 3) := by decide +kernel
theorem dX2_init_29 : decode cX2_init 29 = .ok (.dup, 1) := by decide +kernel
theorem dX2_init_30 : decode cX2_init 30 = .ok (.invokespecial 17, 3) := by decide +kernel
theorem dX2_init_33 : decode cX2_init 33 = .ok (.aastore, 1) := by decide +kernel
theorem dX2_init_34 : decode cX2_init 34 = .ok (.iinc 1 1, 3) := by decide +kernel
theorem dX2_init_37 : decode cX2_init 37 = .ok (.goto (-22), 3) := by decide +kernel
theorem dX2_init_40 : decode cX2_init 40 = .ok (.aload_n 0, 1) := by decide +kernel
theorem dX2_init_41 : decode cX2_init 41 = .ok (.iconst 4, 1) := by decide +kernel
theorem dX2_init_42 : decode cX2_init 42 = .ok (.anewarray 18, 3) := by decide +kernel
theorem dX2_init_45 : decode cX2_init 45 = .ok (.putfield 20, 3) := by decide +kernel
theorem dX2_init_48 : decode cX2_init 48 = .ok (.iconst 0, 1) := by decide +kernel
theorem dX2_init_49 : decode cX2_init 49 = .ok (.istore_n 1, 1) := by decide +kernel
theorem dX2_init_50 : decode cX2_init 50 = .ok (.iload_n 1, 1) := by decide +kernel
theorem dX2_init_51 : decode cX2_init 51 = .ok (.iconst 4, 1) := by decide +kernel
theorem dX2_init_52 : decode cX2_init 52 = .ok (.if_icmp .ge 22, 3) := by decide +kernel
theorem dX2_init_55 : decode cX2_init 55 = .ok (.aload_n 0, 1) := by decide +kernel
theorem dX2_init_56 : decode cX2_init 56 = .ok (.getfield 20, 3) := by decide +kernel
theorem dX2_init_59 : decode cX2_init 59 = .ok (.iload_n 1, 1) := by decide +kernel
theorem dX2_init_60 : decode cX2_init 60 = .ok (.new 18, 3) := by decide +kernel
theorem dX2_init_63 : decode cX2_init 63 = .ok (.dup, 1) := by decide +kernel
theorem dX2_init_64 : decode cX2_init 64 = .ok (.invokespecial 24, 3) := by decide +kernel
theorem dX2_init_67 : decode cX2_init 67 = .ok (.aastore, 1) := by decide +kernel
theorem dX2_init_68 : decode cX2_init 68 = .ok (.iinc 1 1, 3) := by decide +kernel
theorem dX2_init_71 : decode cX2_init 71 = .ok (.goto (-21), 3) := by decide +kernel
theorem dX2_init_74 : decode cX2_init 74 = .ok (.return_, 1) := by decide +kernel
theorem dX2_copyFrom_0 : decode cX2_copyFrom 0 = .ok (.aload_n 0, 1) := by decide +kernel
theorem dX2_copyFrom_1 : decode cX2_copyFrom 1 = .ok (.aload_n 1, 1) := by decide +kernel
theorem dX2_copyFrom_2 : decode cX2_copyFrom 2 = .ok (.getfield 25, 3) := by decide +kernel
theorem dX2_copyFrom_5 : decode cX2_copyFrom 5 = .ok (.putfield 25, 3) := by decide +kernel
theorem dX2_copyFrom_8 : decode cX2_copyFrom 8 = .ok (.aload_n 0, 1) := by decide +kernel
theorem dX2_copyFrom_9 : decode cX2_copyFrom 9 = .ok (.aload_n 1, 1) := by decide +kernel
theorem dX2_copyFrom_10 : decode cX2_copyFrom 10 = .ok (.getfield 29, 3) := by decide +kernel
theorem dX2_copyFrom_13 : decode cX2_copyFrom 13 = .ok (.putfield 29, 3) := by decide +kernel
theorem dX2_copyFrom_16 : decode cX2_copyFrom 16 = .ok (.iconst 0, 1) := by decide +kernel
theorem dX2_copyFrom_17 : decode cX2_copyFrom 17 = .ok (.istore_n 2, 1) := by decide +kernel
theorem dX2_copyFrom_18 : decode cX2_copyFrom 18 = .ok (.iload_n 2, 1) := by decide +kernel
theorem dX2_copyFrom_19 : decode cX2_copyFrom 19 = .ok (.aload_n 0, 1) := by decide +kernel
theorem dX2_copyFrom_20 : decode cX2_copyFrom 20 = .ok (.getfield 29, 3) := by decide +kernel
theorem dX2_copyFrom_23 : decode cX2_copyFrom 23 = .ok (.if_icmp .ge 24, 3) := by decide +kernel
theorem dX2_copyFrom_26 : decode cX2_copyFrom 26 = .ok (.aload_n 0, 1) := by decide +kernel
theorem dX2_copyFrom_27 : decode cX2_copyFrom 27 = .ok (.getfield 11, 3) := by decide +kernel
theorem dX2_copyFrom_30 : decode cX2_copyFrom 30 = .ok (.iload_n 2, 1) := by decide +kernel
theorem dX2_copyFrom_31 : decode cX2_copyFrom 31 = .ok (.aaload, 1) := by decide +kernel
theorem dX2_copyFrom_32 : decode cX2_copyFrom 32 = .ok (.aload_n 1, 1) := by decide +kernel
theorem dX2_copyFrom_33 : decode cX2_copyFrom 33 = .ok (.getfield 11, 3) := by decide +kernel
theorem dX2_copyFrom_36 : decode cX2_copyFrom 36 = .ok (.iload_n 2, 1) := by decide +kernel
theorem dX2_copyFrom_37 : decode cX2_copyFrom 37 = .ok (.aaload, 1) := by decide +kernel
theorem dX2_copyFrom_38 : decode cX2_copyFrom 38 = .ok (.invokevirtual 32, 3) := by decide +kernel
theorem dX2_copyFrom_41 : decode cX2_copyFrom 41 = .ok (.iinc 2 1, 3) := by decide +kernel
theorem dX2_copyFrom_44 : decode cX2_copyFrom 44 = .ok (.goto (-26), 3) := by decide +kernel
theorem dX2_copyFrom_47 : decode cX2_copyFrom 47 = .ok (.iconst 0, 1) := by decide +kernel
theorem dX2_copyFrom_48 : decode cX2_copyFrom 48 = .ok (.istore_n 2, 1) := by decide +kernel
theorem dX2_copyFrom_49 : decode cX2_copyFrom 49 = .ok (.iload_n 2, 1) := by decide +kernel
theorem dX2_copyFrom_50 : decode cX2_copyFrom 50 = .ok (.iconst 4, 1) := by decide +kernel
theorem dX2_copyFrom_51 : decode cX2_copyFrom 51 = .ok (.if_icmp .ge 24, 3) := by decide +kernel
theorem dX2_copyFrom_54 : decode cX2_copyFrom 54 = .ok (.aload_n 0, 1) := by decide +kernel
theorem dX2_copyFrom_55 : decode cX2_copyFrom 55 = .ok (.getfield 20, 3) := by decide +kernel
theorem dX2_copyFrom_58 : decode cX2_copyFrom 58 = .ok (.iload_n 2, 1) := by decide +kernel
theorem dX2_copyFrom_59 : decode cX2_copyFrom 59 = .ok (.aaload, 1) := by decide +kernel
theorem dX2_copyFrom_60 : decode cX2_copyFrom 60 = .ok (.aload_n 1, 1) := by decide +kernel
theorem dX2_copyFrom_61 : decode cX2_copyFrom 61 = .ok (.getfield 20, 3) := by decide +kernel
theorem dX2_copyFrom_64 : decode cX2_copyFrom 64 = .ok (.iload_n 2, 1) := by decide +kernel
theorem dX2_copyFrom_65 : decode cX2_copyFrom 65 = .ok (.aaload, 1) := by decide +kernel
theorem dX2_copyFrom_66 : decode cX2_copyFrom 66 = .ok (.invokevirtual 36, 3) := by decide +kernel
theorem dX2_copyFrom_69 : decode cX2_copyFrom 69 = .ok (.iinc 2 1, 3) := by decide +kernel
theorem dX2_copyFrom_72 : decode cX2_copyFrom 72 = .ok (.goto (-23), 3) := by decide +kernel
theorem dX2_copyFrom_75 : decode cX2_copyFrom 75 = .ok (.return_, 1) := by decide +kernel
theorem dX2_goBy_0 : decode cX2_goBy 0 = .ok (.iconst 0, 1) := by decide +kernel
theorem dX2_goBy_1 : decode cX2_goBy 1 = .ok (.istore_n 2, 1) := by decide +kernel
theorem dX2_goBy_2 : decode cX2_goBy 2 = .ok (.iconst 0, 1) := by decide +kernel
theorem dX2_goBy_3 : decode cX2_goBy 3 = .ok (.istore_n 3, 1) := by decide +kernel
theorem dX2_goBy_4 : decode cX2_goBy 4 = .ok (.iload_n 3, 1) := by decide +kernel
theorem dX2_goBy_5 : decode cX2_goBy 5 = .ok (.iload_n 1, 1) := by decide +kernel
theorem dX2_goBy_6 : decode cX2_goBy 6 = .ok (.if_icmp .ge 16, 3) := by decide +kernel
theorem dX2_goBy_9 : decode cX2_goBy 9 = .ok (.iload_n 2, 1) := by decide +kernel
theorem dX2_goBy_10 : decode cX2_goBy 10 = .ok (.aload_n 0, 1) := by decide +kernel
theorem dX2_goBy_11 : decode cX2_goBy 11 = .ok (.invokevirtual 39, 3) := by decide +kernel
theorem dX2_goBy_14 : decode cX2_goBy 14 = .ok (.iadd, 1) := by decide +kernel
theorem dX2_goBy_15 : decode cX2_goBy 15 = .ok (.istore_n 2, 1) := by decide +kernel
theorem dX2_goBy_16 : decode cX2_goBy 16 = .ok (.iinc 3 1, 3) := by decide +kernel
theorem dX2_goBy_19 : decode cX2_goBy 19 = .ok (.goto (-15), 3) := by decide +kernel
theorem dX2_goBy_22 : decode cX2_goBy 22 = .ok (.iload_n 2, 1) := by decide +kernel
theorem dX2_goBy_23 : decode cX2_goBy 23 = .ok (.ireturn, 1) := by decide +kernel
theorem dX2_goByOne_0 : decode cX2_goByOne 0 = .ok (.iconst 0, 1) := by decide +kernel
theorem dX2_goByOne_1 : decode cX2_goByOne 1 = .ok (.istore_n 1, 1) := by decide +kernel
theorem dX2_goByOne_2 : decode cX2_goByOne 2 = .ok (.iconst 0, 1) := by decide +kernel
theorem dX2_goByOne_3 : decode cX2_goByOne 3 = .ok (.istore_n 2, 1) := by decide +kernel
theorem dX2_goByOne_4 : decode cX2_goByOne 4 = .ok (.iload_n 2, 1) := by decide +kernel
theorem dX2_goByOne_5 : decode cX2_goByOne 5 = .ok (.aload_n 0, 1) := by decide +kernel
theorem dX2_goByOne_6 : decode cX2_goByOne 6 = .ok (.getfield 29, 3) := by decide +kernel
theorem dX2_goByOne_9 : decode cX2_goByOne 9 = .ok (.if_icmp .ge 21, 3) := by decide +kernel
theorem dX2_goByOne_12 : decode cX2_goByOne 12 = .ok (.iload_n 1, 1) := by decide +kernel
theorem dX2_goByOne_13 : decode cX2_goByOne 13 = .ok (.aload_n 0, 1) := by decide +kernel
theorem dX2_goByOne_14 : decode cX2_goByOne 14 = .ok (.getfield 11, 3) := by decide +kernel
theorem dX2_goByOne_17 : decode cX2_goByOne 17 = .ok (.iload_n 2, 1) := by decide +kernel
theorem dX2_goByOne_18 : decode cX2_goByOne 18 = .ok (.aaload, 1) := by decide +kernel
theorem dX2_goByOne_19 : decode cX2_goByOne 19 = .ok (.invokevirtual 43, 3) := by decide +kernel
theorem dX2_goByOne_22 : decode cX2_goByOne 22 = .ok (.iadd, 1) := by decide +kernel
theorem dX2_goByOne_23 : decode cX2_goByOne 23 = .ok (.istore_n 1, 1) := by decide +kernel
theorem dX2_goByOne_24 : decode cX2_goByOne 24 = .ok (.iinc 2 1, 3) := by decide +kernel
theorem dX2_goByOne_27 : decode cX2_goByOne 27 = .ok (.goto (-23), 3) := by decide +kernel
theorem dX2_goByOne_30 : decode cX2_goByOne 30 = .ok (.aload_n 0, 1) := by decide +kernel
theorem dX2_goByOne_31 : decode cX2_goByOne 31 = .ok (.getfield 25, 3) := by decide +kernel
theorem dX2_goByOne_34 : decode cX2_goByOne 34 = .ok (.bipush 48, 2) := by decide +kernel
theorem dX2_goByOne_36 : decode cX2_goByOne 36 = .ok (.irem, 1) := by decide +kernel
theorem dX2_goByOne_37 : decode cX2_goByOne 37 = .ok (.bipush 47, 2) := by decide +kernel
theorem dX2_goByOne_39 : decode cX2_goByOne 39 = .ok (.if_icmp .ne 7, 3) := by decide +kernel
theorem dX2_goByOne_42 : decode cX2_goByOne 42 = .ok (.aload_n 0, 1) := by decide +kernel
theorem dX2_goByOne_43 : decode cX2_goByOne 43 = .ok (.invokevirtual 46, 3) := by decide +kernel
theorem dX2_goByOne_46 : decode cX2_goByOne 46 = .ok (.aload_n 0, 1) := by decide +kernel
theorem dX2_goByOne_47 : decode cX2_goByOne 47 = .ok (.dup, 1) := by decide +kernel
theorem dX2_goByOne_48 : decode cX2_goByOne 48 = .ok (.getfield 25, 3) := by decide +kernel
theorem dX2_goByOne_51 : decode cX2_goByOne 51 = .ok (.iconst 1, 1) := by decide +kernel
theorem dX2_goByOne_52 : decode cX2_goByOne 52 = .ok (.iadd, 1) := by decide +kernel
theorem dX2_goByOne_53 : decode cX2_goByOne 53 = .ok (.putfield 25, 3) := by decide +kernel
theorem dX2_goByOne_56 : decode cX2_goByOne 56 = .ok (.iload_n 1, 1) := by decide +kernel
theorem dX2_goByOne_57 : decode cX2_goByOne 57 = .ok (.ireturn, 1) := by decide +kernel
theorem dX2_reckonWeek_0 : decode cX2_reckonWeek 0 = .ok (.iconst 0, 1) := by decide +kernel
theorem dX2_reckonWeek_1 : decode cX2_reckonWeek 1 = .ok (.istore_n 1, 1) := by decide +kernel
theorem dX2_reckonWeek_2 : decode cX2_reckonWeek 2 = .ok (.iload_n 1, 1) := by decide +kernel
theorem dX2_reckonWeek_3 : decode cX2_reckonWeek 3 = .ok (.aload_n 0, 1) := by decide +kernel
theorem dX2_reckonWeek_4 : decode cX2_reckonWeek 4 = .ok (.getfield 29, 3) := by decide +kernel
theorem dX2_reckonWeek_7 : decode cX2_reckonWeek 7 = .ok (.if_icmp .ge 44, 3) := by decide +kernel
theorem dX2_reckonWeek_10 : decode cX2_reckonWeek 10 = .ok (.aload_n 0, 1) := by decide +kernel
theorem dX2_reckonWeek_11 : decode cX2_reckonWeek 11 = .ok (.getfield 20, 3) := by decide +kernel
theorem dX2_reckonWeek_14 : decode cX2_reckonWeek 14 = .ok (.aload_n 0, 1) := by decide +kernel
theorem dX2_reckonWeek_15 : decode cX2_reckonWeek 15 = .ok (.getfield 11, 3) := by decide +kernel
theorem dX2_reckonWeek_18 : decode cX2_reckonWeek 18 = .ok (.iload_n 1, 1) := by decide +kernel
theorem dX2_reckonWeek_19 : decode cX2_reckonWeek 19 = .ok (.aaload, 1) := by decide +kernel
theorem dX2_reckonWeek_20 : decode cX2_reckonWeek 20 = .ok (.getfield 49, 3) := by decide +kernel
theorem dX2_reckonWeek_23 : decode cX2_reckonWeek 23 = .ok (.aaload, 1) := by decide +kernel
theorem dX2_reckonWeek_24 : decode cX2_reckonWeek 24 = .ok (.astore_n 2, 1) := by decide +kernel
theorem dX2_reckonWeek_25 : decode cX2_reckonWeek 25 = .ok (.aload_n 2, 1) := by decide +kernel
theorem dX2_reckonWeek_26 : decode cX2_reckonWeek 26 = .ok (.aload_n 0, 1) := by decide +kernel
theorem dX2_reckonWeek_27 : decode cX2_reckonWeek 27 = .ok (.getfield 11, 3) := by decide +kernel
theorem dX2_reckonWeek_30 : decode cX2_reckonWeek 30 = .ok (.iload_n 1, 1) := by decide +kernel
theorem dX2_reckonWeek_31 : decode cX2_reckonWeek 31 = .ok (.aaload, 1) := by decide +kernel
theorem dX2_reckonWeek_32 : decode cX2_reckonWeek 32 = .ok (.invokevirtual 52, 3) := by decide +kernel
theorem dX2_reckonWeek_35 : decode cX2_reckonWeek 35 = .ok (.aload_n 2, 1) := by decide +kernel
theorem dX2_reckonWeek_36 : decode cX2_reckonWeek 36 = .ok (.aload_n 0, 1) := by decide +kernel
theorem dX2_reckonWeek_37 : decode cX2_reckonWeek 37 = .ok (.getfield 11, 3) := by decide +kernel
theorem dX2_reckonWeek_40 : decode cX2_reckonWeek 40 = .ok (.iload_n 1, 1) := by decide +kernel
theorem dX2_reckonWeek_41 : decode cX2_reckonWeek 41 = .ok (.aaload, 1) := by decide +kernel
theorem dX2_reckonWeek_42 : decode cX2_reckonWeek 42 = .ok (.invokevirtual 55, 3) := by decide +kernel
theorem dX2_reckonWeek_45 : decode cX2_reckonWeek 45 = .ok (.iinc 1 1, 3) := by decide +kernel
theorem dX2_reckonWeek_48 : decode cX2_reckonWeek 48 = .ok (.goto (-46), 3) := by decide +kernel
theorem dX2_reckonWeek_51 : decode cX2_reckonWeek 51 = .ok (.iconst 0, 1) := by decide +kernel
theorem dX2_reckonWeek_52 : decode cX2_reckonWeek 52 = .ok (.istore_n 1, 1) := by decide +kernel
theorem dX2_reckonWeek_53 : decode cX2_reckonWeek 53 = .ok (.iload_n 1, 1) := by decide +kernel
theorem dX2_reckonWeek_54 : decode cX2_reckonWeek 54 = .ok (.iconst 4, 1) := by decide +kernel
theorem dX2_reckonWeek_55 : decode cX2_reckonWeek 55 = .ok (.if_icmp .ge 18, 3) := by decide +kernel
theorem dX2_reckonWeek_58 : decode cX2_reckonWeek 58 = .ok (.aload_n 0, 1) := by decide +kernel
theorem dX2_reckonWeek_59 : decode cX2_reckonWeek 59 = .ok (.getfield 20, 3) := by decide +kernel
theorem dX2_reckonWeek_62 : decode cX2_reckonWeek 62 = .ok (.iload_n 1, 1) := by decide +kernel
theorem dX2_reckonWeek_63 : decode cX2_reckonWeek 63 = .ok (.aaload, 1) := by decide +kernel
theorem dX2_reckonWeek_64 : decode cX2_reckonWeek 64 = .ok (.invokevirtual 58, 3) := by decide +kernel
theorem dX2_reckonWeek_67 : decode cX2_reckonWeek 67 = .ok (.iinc 1 1, 3) := by decide +kernel
theorem dX2_reckonWeek_70 : decode cX2_reckonWeek 70 = .ok (.goto (-17), 3) := by decide +kernel
theorem dX2_reckonWeek_73 : decode cX2_reckonWeek 73 = .ok (.return_, 1) := by decide +kernel
theorem dX2_total_0 : decode cX2_total 0 = .ok (.iload_n 1, 1) := by decide +kernel
theorem dX2_total_1 : decode cX2_total 1 = .ok (.lookupswitch 50 #[(0, 35), (1, 40), (6, 45)], 35) := by decide +kernel
theorem dX2_total_36 : decode cX2_total 36 = .ok (.aload_n 0, 1) := by decide +kernel
theorem dX2_total_37 : decode cX2_total 37 = .ok (.getfield 25, 3) := by decide +kernel
theorem dX2_total_40 : decode cX2_total 40 = .ok (.ireturn, 1) := by decide +kernel
theorem dX2_total_41 : decode cX2_total 41 = .ok (.aload_n 0, 1) := by decide +kernel
theorem dX2_total_42 : decode cX2_total 42 = .ok (.getfield 29, 3) := by decide +kernel
theorem dX2_total_45 : decode cX2_total 45 = .ok (.ireturn, 1) := by decide +kernel
theorem dX2_total_46 : decode cX2_total 46 = .ok (.aload_n 0, 1) := by decide +kernel
theorem dX2_total_47 : decode cX2_total 47 = .ok (.invokevirtual 61, 3) := by decide +kernel
theorem dX2_total_50 : decode cX2_total 50 = .ok (.ireturn, 1) := by decide +kernel
theorem dX2_total_51 : decode cX2_total 51 = .ok (.aload_n 0, 1) := by decide +kernel
theorem dX2_total_52 : decode cX2_total 52 = .ok (.iload_n 1, 1) := by decide +kernel
theorem dX2_total_53 : decode cX2_total 53 = .ok (.invokevirtual 64, 3) := by decide +kernel
theorem dX2_total_56 : decode cX2_total 56 = .ok (.ireturn, 1) := by decide +kernel
theorem dX2_warehouseBags_0 : decode cX2_warehouseBags 0 = .ok (.iconst 0, 1) := by decide +kernel
theorem dX2_warehouseBags_1 : decode cX2_warehouseBags 1 = .ok (.istore_n 1, 1) := by decide +kernel
theorem dX2_warehouseBags_2 : decode cX2_warehouseBags 2 = .ok (.iconst 0, 1) := by decide +kernel
theorem dX2_warehouseBags_3 : decode cX2_warehouseBags 3 = .ok (.istore_n 2, 1) := by decide +kernel
theorem dX2_warehouseBags_4 : decode cX2_warehouseBags 4 = .ok (.iload_n 2, 1) := by decide +kernel
theorem dX2_warehouseBags_5 : decode cX2_warehouseBags 5 = .ok (.iconst 4, 1) := by decide +kernel
theorem dX2_warehouseBags_6 : decode cX2_warehouseBags 6 = .ok (.if_icmp .ge 21, 3) := by decide +kernel
theorem dX2_warehouseBags_9 : decode cX2_warehouseBags 9 = .ok (.iload_n 1, 1) := by decide +kernel
theorem dX2_warehouseBags_10 : decode cX2_warehouseBags 10 = .ok (.aload_n 0, 1) := by decide +kernel
theorem dX2_warehouseBags_11 : decode cX2_warehouseBags 11 = .ok (.getfield 20, 3) := by decide +kernel
theorem dX2_warehouseBags_14 : decode cX2_warehouseBags 14 = .ok (.iload_n 2, 1) := by decide +kernel
theorem dX2_warehouseBags_15 : decode cX2_warehouseBags 15 = .ok (.aaload, 1) := by decide +kernel
theorem dX2_warehouseBags_16 : decode cX2_warehouseBags 16 = .ok (.getfield 68, 3) := by decide +kernel
theorem dX2_warehouseBags_19 : decode cX2_warehouseBags 19 = .ok (.iadd, 1) := by decide +kernel
theorem dX2_warehouseBags_20 : decode cX2_warehouseBags 20 = .ok (.istore_n 1, 1) := by decide +kernel
theorem dX2_warehouseBags_21 : decode cX2_warehouseBags 21 = .ok (.iinc 2 1, 3) := by decide +kernel
theorem dX2_warehouseBags_24 : decode cX2_warehouseBags 24 = .ok (.goto (-20), 3) := by decide +kernel
theorem dX2_warehouseBags_27 : decode cX2_warehouseBags 27 = .ok (.iload_n 1, 1) := by decide +kernel
theorem dX2_warehouseBags_28 : decode cX2_warehouseBags 28 = .ok (.ireturn, 1) := by decide +kernel
theorem dX2_sumOfShares_0 : decode cX2_sumOfShares 0 = .ok (.iconst 0, 1) := by decide +kernel
theorem dX2_sumOfShares_1 : decode cX2_sumOfShares 1 = .ok (.istore_n 2, 1) := by decide +kernel
theorem dX2_sumOfShares_2 : decode cX2_sumOfShares 2 = .ok (.iconst 0, 1) := by decide +kernel
theorem dX2_sumOfShares_3 : decode cX2_sumOfShares 3 = .ok (.istore_n 3, 1) := by decide +kernel
theorem dX2_sumOfShares_4 : decode cX2_sumOfShares 4 = .ok (.iload_n 3, 1) := by decide +kernel
theorem dX2_sumOfShares_5 : decode cX2_sumOfShares 5 = .ok (.aload_n 0, 1) := by decide +kernel
theorem dX2_sumOfShares_6 : decode cX2_sumOfShares 6 = .ok (.getfield 29, 3) := by decide +kernel
theorem dX2_sumOfShares_9 : decode cX2_sumOfShares 9 = .ok (.if_icmp .ge 22, 3) := by decide +kernel
theorem dX2_sumOfShares_12 : decode cX2_sumOfShares 12 = .ok (.iload_n 2, 1) := by decide +kernel
theorem dX2_sumOfShares_13 : decode cX2_sumOfShares 13 = .ok (.aload_n 0, 1) := by decide +kernel
theorem dX2_sumOfShares_14 : decode cX2_sumOfShares 14 = .ok (.getfield 11, 3) := by decide +kernel
theorem dX2_sumOfShares_17 : decode cX2_sumOfShares 17 = .ok (.iload_n 3, 1) := by decide +kernel
theorem dX2_sumOfShares_18 : decode cX2_sumOfShares 18 = .ok (.aaload, 1) := by decide +kernel
theorem dX2_sumOfShares_19 : decode cX2_sumOfShares 19 = .ok (.iload_n 1, 1) := by decide +kernel
theorem dX2_sumOfShares_20 : decode cX2_sumOfShares 20 = .ok (.invokevirtual 71, 3) := by decide +kernel
theorem dX2_sumOfShares_23 : decode cX2_sumOfShares 23 = .ok (.iadd, 1) := by decide +kernel
theorem dX2_sumOfShares_24 : decode cX2_sumOfShares 24 = .ok (.istore_n 2, 1) := by decide +kernel
theorem dX2_sumOfShares_25 : decode cX2_sumOfShares 25 = .ok (.iinc 3 1, 3) := by decide +kernel
theorem dX2_sumOfShares_28 : decode cX2_sumOfShares 28 = .ok (.goto (-24), 3) := by decide +kernel
theorem dX2_sumOfShares_31 : decode cX2_sumOfShares 31 = .ok (.iload_n 2, 1) := by decide +kernel
theorem dX2_sumOfShares_32 : decode cX2_sumOfShares 32 = .ok (.ireturn, 1) := by decide +kernel
theorem dX2_foggerNumber_0 : decode cX2_foggerNumber 0 = .ok (.iload_n 2, 1) := by decide +kernel
theorem dX2_foggerNumber_1 : decode cX2_foggerNumber 1 = .ok (.tableswitch 81 0 4 #[35, 45, 55, 61, 71], 35) := by decide +kernel
theorem dX2_foggerNumber_36 : decode cX2_foggerNumber 36 = .ok (.aload_n 0, 1) := by decide +kernel
theorem dX2_foggerNumber_37 : decode cX2_foggerNumber 37 = .ok (.getfield 20, 3) := by decide +kernel
theorem dX2_foggerNumber_40 : decode cX2_foggerNumber 40 = .ok (.iload_n 1, 1) := by decide +kernel
theorem dX2_foggerNumber_41 : decode cX2_foggerNumber 41 = .ok (.aaload, 1) := by decide +kernel
theorem dX2_foggerNumber_42 : decode cX2_foggerNumber 42 = .ok (.getfield 74, 3) := by decide +kernel
theorem dX2_foggerNumber_45 : decode cX2_foggerNumber 45 = .ok (.ireturn, 1) := by decide +kernel
theorem dX2_foggerNumber_46 : decode cX2_foggerNumber 46 = .ok (.aload_n 0, 1) := by decide +kernel
theorem dX2_foggerNumber_47 : decode cX2_foggerNumber 47 = .ok (.getfield 20, 3) := by decide +kernel
theorem dX2_foggerNumber_50 : decode cX2_foggerNumber 50 = .ok (.iload_n 1, 1) := by decide +kernel
theorem dX2_foggerNumber_51 : decode cX2_foggerNumber 51 = .ok (.aaload, 1) := by decide +kernel
theorem dX2_foggerNumber_52 : decode cX2_foggerNumber 52 = .ok (.getfield 77, 3) := by decide +kernel
theorem dX2_foggerNumber_55 : decode cX2_foggerNumber 55 = .ok (.ireturn, 1) := by decide +kernel
theorem dX2_foggerNumber_56 : decode cX2_foggerNumber 56 = .ok (.aload_n 0, 1) := by decide +kernel
theorem dX2_foggerNumber_57 : decode cX2_foggerNumber 57 = .ok (.iload_n 1, 1) := by decide +kernel
theorem dX2_foggerNumber_58 : decode cX2_foggerNumber 58 = .ok (.invokevirtual 80, 3) := by decide +kernel
theorem dX2_foggerNumber_61 : decode cX2_foggerNumber 61 = .ok (.ireturn, 1) := by decide +kernel
theorem dX2_foggerNumber_62 : decode cX2_foggerNumber 62 = .ok (.aload_n 0, 1) := by decide +kernel
theorem dX2_foggerNumber_63 : decode cX2_foggerNumber 63 = .ok (.getfield 20, 3) := by decide +kernel
theorem dX2_foggerNumber_66 : decode cX2_foggerNumber 66 = .ok (.iload_n 1, 1) := by decide +kernel
theorem dX2_foggerNumber_67 : decode cX2_foggerNumber 67 = .ok (.aaload, 1) := by decide +kernel
theorem dX2_foggerNumber_68 : decode cX2_foggerNumber 68 = .ok (.getfield 68, 3) := by decide +kernel
theorem dX2_foggerNumber_71 : decode cX2_foggerNumber 71 = .ok (.ireturn, 1) := by decide +kernel
theorem dX2_foggerNumber_72 : decode cX2_foggerNumber 72 = .ok (.aload_n 0, 1) := by decide +kernel
theorem dX2_foggerNumber_73 : decode cX2_foggerNumber 73 = .ok (.getfield 20, 3) := by decide +kernel
theorem dX2_foggerNumber_76 : decode cX2_foggerNumber 76 = .ok (.iload_n 1, 1) := by decide +kernel
theorem dX2_foggerNumber_77 : decode cX2_foggerNumber 77 = .ok (.aaload, 1) := by decide +kernel
theorem dX2_foggerNumber_78 : decode cX2_foggerNumber 78 = .ok (.getfield 83, 3) := by decide +kernel
theorem dX2_foggerNumber_81 : decode cX2_foggerNumber 81 = .ok (.ireturn, 1) := by decide +kernel
theorem dX2_foggerNumber_82 : decode cX2_foggerNumber 82 = .ok (.aload_n 0, 1) := by decide +kernel
theorem dX2_foggerNumber_83 : decode cX2_foggerNumber 83 = .ok (.getfield 20, 3) := by decide +kernel
theorem dX2_foggerNumber_86 : decode cX2_foggerNumber 86 = .ok (.iload_n 1, 1) := by decide +kernel
theorem dX2_foggerNumber_87 : decode cX2_foggerNumber 87 = .ok (.aaload, 1) := by decide +kernel
theorem dX2_foggerNumber_88 : decode cX2_foggerNumber 88 = .ok (.getfield 86, 3) := by decide +kernel
theorem dX2_foggerNumber_91 : decode cX2_foggerNumber 91 = .ok (.aload_n 0, 1) := by decide +kernel
theorem dX2_foggerNumber_92 : decode cX2_foggerNumber 92 = .ok (.getfield 20, 3) := by decide +kernel
theorem dX2_foggerNumber_95 : decode cX2_foggerNumber 95 = .ok (.iload_n 1, 1) := by decide +kernel
theorem dX2_foggerNumber_96 : decode cX2_foggerNumber 96 = .ok (.aaload, 1) := by decide +kernel
theorem dX2_foggerNumber_97 : decode cX2_foggerNumber 97 = .ok (.getfield 83, 3) := by decide +kernel
theorem dX2_foggerNumber_100 : decode cX2_foggerNumber 100 = .ok (.isub, 1) := by decide +kernel
theorem dX2_foggerNumber_101 : decode cX2_foggerNumber 101 = .ok (.ireturn, 1) := by decide +kernel
theorem dX2_workersFor_0 : decode cX2_workersFor 0 = .ok (.iconst 0, 1) := by decide +kernel
theorem dX2_workersFor_1 : decode cX2_workersFor 1 = .ok (.istore_n 2, 1) := by decide +kernel
theorem dX2_workersFor_2 : decode cX2_workersFor 2 = .ok (.iconst 0, 1) := by decide +kernel
theorem dX2_workersFor_3 : decode cX2_workersFor 3 = .ok (.istore_n 3, 1) := by decide +kernel
theorem dX2_workersFor_4 : decode cX2_workersFor 4 = .ok (.iload_n 3, 1) := by decide +kernel
theorem dX2_workersFor_5 : decode cX2_workersFor 5 = .ok (.aload_n 0, 1) := by decide +kernel
theorem dX2_workersFor_6 : decode cX2_workersFor 6 = .ok (.getfield 29, 3) := by decide +kernel
theorem dX2_workersFor_9 : decode cX2_workersFor 9 = .ok (.if_icmp .ge 25, 3) := by decide +kernel
theorem dX2_workersFor_12 : decode cX2_workersFor 12 = .ok (.aload_n 0, 1) := by decide +kernel
theorem dX2_workersFor_13 : decode cX2_workersFor 13 = .ok (.getfield 11, 3) := by decide +kernel
theorem dX2_workersFor_16 : decode cX2_workersFor 16 = .ok (.iload_n 3, 1) := by decide +kernel
theorem dX2_workersFor_17 : decode cX2_workersFor 17 = .ok (.aaload, 1) := by decide +kernel
theorem dX2_workersFor_18 : decode cX2_workersFor 18 = .ok (.getfield 49, 3) := by decide +kernel
theorem dX2_workersFor_21 : decode cX2_workersFor 21 = .ok (.iload_n 1, 1) := by decide +kernel
theorem dX2_workersFor_22 : decode cX2_workersFor 22 = .ok (.if_icmp .ne 6, 3) := by decide +kernel
theorem dX2_workersFor_25 : decode cX2_workersFor 25 = .ok (.iinc 2 1, 3) := by decide +kernel
theorem dX2_workersFor_28 : decode cX2_workersFor 28 = .ok (.iinc 3 1, 3) := by decide +kernel
theorem dX2_workersFor_31 : decode cX2_workersFor 31 = .ok (.goto (-27), 3) := by decide +kernel
theorem dX2_workersFor_34 : decode cX2_workersFor 34 = .ok (.iload_n 2, 1) := by decide +kernel
theorem dX2_workersFor_35 : decode cX2_workersFor 35 = .ok (.ireturn, 1) := by decide +kernel
theorem dX3_init_0 : decode cX3_init 0 = .ok (.aload_n 0, 1) := by decide +kernel
theorem dX3_init_1 : decode cX3_init 1 = .ok (.invokespecial 1, 3) := by decide +kernel
theorem dX3_init_4 : decode cX3_init 4 = .ok (.aload_n 0, 1) := by decide +kernel
theorem dX3_init_5 : decode cX3_init 5 = .ok (.new 7, 3) := by decide +kernel
theorem dX3_init_8 : decode cX3_init 8 = .ok (.dup, 1) := by decide +kernel
theorem dX3_init_9 : decode cX3_init 9 = .ok (.invokespecial 9, 3) := by decide +kernel
theorem dX3_init_12 : decode cX3_init 12 = .ok (.putfield 10, 3) := by decide +kernel
theorem dX3_init_15 : decode cX3_init 15 = .ok (.aload_n 0, 1) := by decide +kernel
theorem dX3_init_16 : decode cX3_init 16 = .ok (.new 7, 3) := by decide +kernel
theorem dX3_init_19 : decode cX3_init 19 = .ok (.dup, 1) := by decide +kernel
theorem dX3_init_20 : decode cX3_init 20 = .ok (.invokespecial 9, 3) := by decide +kernel
theorem dX3_init_23 : decode cX3_init 23 = .ok (.putfield 16, 3) := by decide +kernel
theorem dX3_init_26 : decode cX3_init 26 = .ok (.aload_n 0, 1) := by decide +kernel
theorem dX3_init_27 : decode cX3_init 27 = .ok (.new 19, 3) := by decide +kernel
theorem dX3_init_30 : decode cX3_init 30 = .ok (.dup, 1) := by decide +kernel
theorem dX3_init_31 : decode cX3_init 31 = .ok (.invokespecial 21, 3) := by decide +kernel
theorem dX3_init_34 : decode cX3_init 34 = .ok (.putfield 22, 3) := by decide +kernel
theorem dX3_init_37 : decode cX3_init 37 = .ok (.return_, 1) := by decide +kernel
theorem dX3_nailer_0 : decode cX3_nailer 0 = .ok (.iload_n 2, 1) := by decide +kernel
theorem dX3_nailer_1 : decode cX3_nailer 1 = .ok (.iconst 4, 1) := by decide +kernel
theorem dX3_nailer_2 : decode cX3_nailer 2 = .ok (.invokestatic 26, 3) := by decide +kernel
theorem dX3_nailer_5 : decode cX3_nailer 5 = .ok (.iload_n 3, 1) := by decide +kernel
theorem dX3_nailer_6 : decode cX3_nailer 6 = .ok (.iconst 4, 1) := by decide +kernel
theorem dX3_nailer_7 : decode cX3_nailer 7 = .ok (.invokestatic 26, 3) := by decide +kernel
theorem dX3_nailer_10 : decode cX3_nailer 10 = .ok (.iload_n 1, 1) := by decide +kernel
theorem dX3_nailer_11 : decode cX3_nailer 11 = .ok (.iconst 1, 1) := by decide +kernel
theorem dX3_nailer_12 : decode cX3_nailer 12 = .ok (.bipush 9, 2) := by decide +kernel
theorem dX3_nailer_14 : decode cX3_nailer 14 = .ok (.invokestatic 30, 3) := by decide +kernel
theorem dX3_nailer_17 : decode cX3_nailer 17 = .ok (.aload_n 0, 1) := by decide +kernel
theorem dX3_nailer_18 : decode cX3_nailer 18 = .ok (.getfield 10, 3) := by decide +kernel
theorem dX3_nailer_21 : decode cX3_nailer 21 = .ok (.getfield 34, 3) := by decide +kernel
theorem dX3_nailer_24 : decode cX3_nailer 24 = .ok (.bipush 12, 2) := by decide +kernel
theorem dX3_nailer_26 : decode cX3_nailer 26 = .ok (.if_icmp .lt 13, 3) := by decide +kernel
theorem dX3_nailer_29 : decode cX3_nailer 29 = .ok (.new 38, 3) := by decide +kernel
theorem dX3_nailer_32 : decode cX3_nailer 32 = .ok (.dup, 1) := by decide +kernel
theorem dX3_nailer_33 : decode cX3_nailer 33 = .ok (.ldc 40, 2) := by decide +kernel
theorem dX3_nailer_35 : decode cX3_nailer 35 = .ok (.invokespecial 42, 3) := by decide +kernel
theorem dX3_nailer_38 : decode cX3_nailer 38 = .ok (.athrow, 1) := by decide +kernel
theorem dX3_nailer_39 : decode cX3_nailer 39 = .ok (.aload_n 0, 1) := by decide +kernel
theorem dX3_nailer_40 : decode cX3_nailer 40 = .ok (.getfield 10, 3) := by decide +kernel
theorem dX3_nailer_43 : decode cX3_nailer 43 = .ok (.getfield 34, 3) := by decide +kernel
theorem dX3_nailer_46 : decode cX3_nailer 46 = .ok (.istore 4, 2) := by decide +kernel
theorem dX3_nailer_48 : decode cX3_nailer 48 = .ok (.aload_n 0, 1) := by decide +kernel
theorem dX3_nailer_49 : decode cX3_nailer 49 = .ok (.getfield 10, 3) := by decide +kernel
theorem dX3_nailer_52 : decode cX3_nailer 52 = .ok (.getfield 45, 3) := by decide +kernel
theorem dX3_nailer_55 : decode cX3_nailer 55 = .ok (.iload 4, 2) := by decide +kernel
theorem dX3_nailer_57 : decode cX3_nailer 57 = .ok (.aaload, 1) := by decide +kernel
theorem dX3_nailer_58 : decode cX3_nailer 58 = .ok (.iload_n 1, 1) := by decide +kernel
theorem dX3_nailer_59 : decode cX3_nailer 59 = .ok (.iload_n 2, 1) := by decide +kernel
theorem dX3_nailer_60 : decode cX3_nailer 60 = .ok (.iload_n 3, 1) := by decide +kernel
theorem dX3_nailer_61 : decode cX3_nailer 61 = .ok (.invokevirtual 49, 3) := by decide +kernel
theorem dX3_nailer_64 : decode cX3_nailer 64 = .ok (.aload_n 0, 1) := by decide +kernel
theorem dX3_nailer_65 : decode cX3_nailer 65 = .ok (.getfield 10, 3) := by decide +kernel
theorem dX3_nailer_68 : decode cX3_nailer 68 = .ok (.iload 4, 2) := by decide +kernel
theorem dX3_nailer_70 : decode cX3_nailer 70 = .ok (.iconst 1, 1) := by decide +kernel
theorem dX3_nailer_71 : decode cX3_nailer 71 = .ok (.iadd, 1) := by decide +kernel
theorem dX3_nailer_72 : decode cX3_nailer 72 = .ok (.putfield 34, 3) := by decide +kernel
theorem dX3_nailer_75 : decode cX3_nailer 75 = .ok (.iload 4, 2) := by decide +kernel
theorem dX3_nailer_77 : decode cX3_nailer 77 = .ok (.ireturn, 1) := by decide +kernel
theorem dX3_lend_0 : decode cX3_lend 0 = .ok (.aload_n 0, 1) := by decide +kernel
theorem dX3_lend_1 : decode cX3_lend 1 = .ok (.iload_n 1, 1) := by decide +kernel
theorem dX3_lend_2 : decode cX3_lend 2 = .ok (.invokevirtual 52, 3) := by decide +kernel
theorem dX3_lend_5 : decode cX3_lend 5 = .ok (.iload_n 2, 1) := by decide +kernel
theorem dX3_lend_6 : decode cX3_lend 6 = .ok (.iconst 1, 1) := by decide +kernel
theorem dX3_lend_7 : decode cX3_lend 7 = .ok (.bipush 20, 2) := by decide +kernel
theorem dX3_lend_9 : decode cX3_lend 9 = .ok (.invokestatic 30, 3) := by decide +kernel
theorem dX3_lend_12 : decode cX3_lend 12 = .ok (.aload_n 0, 1) := by decide +kernel
theorem dX3_lend_13 : decode cX3_lend 13 = .ok (.getfield 10, 3) := by decide +kernel
theorem dX3_lend_16 : decode cX3_lend 16 = .ok (.getfield 45, 3) := by decide +kernel
theorem dX3_lend_19 : decode cX3_lend 19 = .ok (.iload_n 1, 1) := by decide +kernel
theorem dX3_lend_20 : decode cX3_lend 20 = .ok (.aaload, 1) := by decide +kernel
theorem dX3_lend_21 : decode cX3_lend 21 = .ok (.astore_n 3, 1) := by decide +kernel
theorem dX3_lend_22 : decode cX3_lend 22 = .ok (.aload_n 3, 1) := by decide +kernel
theorem dX3_lend_23 : decode cX3_lend 23 = .ok (.getfield 56, 3) := by decide +kernel
theorem dX3_lend_26 : decode cX3_lend 26 = .ok (.iload_n 2, 1) := by decide +kernel
theorem dX3_lend_27 : decode cX3_lend 27 = .ok (.iconst 3, 1) := by decide +kernel
theorem dX3_lend_28 : decode cX3_lend 28 = .ok (.imul, 1) := by decide +kernel
theorem dX3_lend_29 : decode cX3_lend 29 = .ok (.iadd, 1) := by decide +kernel
theorem dX3_lend_30 : decode cX3_lend 30 = .ok (.istore 4, 2) := by decide +kernel
theorem dX3_lend_32 : decode cX3_lend 32 = .ok (.iload 4, 2) := by decide +kernel
theorem dX3_lend_34 : decode cX3_lend 34 = .ok (.bipush 90, 2) := by decide +kernel
theorem dX3_lend_36 : decode cX3_lend 36 = .ok (.if_icmp .le 13, 3) := by decide +kernel
theorem dX3_lend_39 : decode cX3_lend 39 = .ok (.new 38, 3) := by decide +kernel
theorem dX3_lend_42 : decode cX3_lend 42 = .ok (.dup, 1) := by decide +kernel
theorem dX3_lend_43 : decode cX3_lend 43 = .ok (.ldc 59, 2) := by decide +kernel
theorem dX3_lend_45 : decode cX3_lend 45 = .ok (.invokespecial 42, 3) := by decide +kernel
theorem dX3_lend_48 : decode cX3_lend 48 = .ok (.athrow, 1) := by decide +kernel
theorem dX3_lend_49 : decode cX3_lend 49 = .ok (.aload_n 3, 1) := by decide +kernel
theorem dX3_lend_50 : decode cX3_lend 50 = .ok (.dup, 1) := by decide +kernel
theorem dX3_lend_51 : decode cX3_lend 51 = .ok (.getfield 61, 3) := by decide +kernel
theorem dX3_lend_54 : decode cX3_lend 54 = .ok (.iload_n 2, 1) := by decide +kernel
theorem dX3_lend_55 : decode cX3_lend 55 = .ok (.iadd, 1) := by decide +kernel
theorem dX3_lend_56 : decode cX3_lend 56 = .ok (.putfield 61, 3) := by decide +kernel
theorem dX3_lend_59 : decode cX3_lend 59 = .ok (.aload_n 3, 1) := by decide +kernel
theorem dX3_lend_60 : decode cX3_lend 60 = .ok (.iload 4, 2) := by decide +kernel
theorem dX3_lend_62 : decode cX3_lend 62 = .ok (.putfield 56, 3) := by decide +kernel
theorem dX3_lend_65 : decode cX3_lend 65 = .ok (.iload 4, 2) := by decide +kernel
theorem dX3_lend_67 : decode cX3_lend 67 = .ok (.ireturn, 1) := by decide +kernel
theorem dX3_coal_0 : decode cX3_coal 0 = .ok (.aload_n 0, 1) := by decide +kernel
theorem dX3_coal_1 : decode cX3_coal 1 = .ok (.iload_n 1, 1) := by decide +kernel
theorem dX3_coal_2 : decode cX3_coal 2 = .ok (.invokevirtual 52, 3) := by decide +kernel
theorem dX3_coal_5 : decode cX3_coal 5 = .ok (.iload_n 2, 1) := by decide +kernel
theorem dX3_coal_6 : decode cX3_coal 6 = .ok (.iconst 1, 1) := by decide +kernel
theorem dX3_coal_7 : decode cX3_coal 7 = .ok (.bipush 99, 2) := by decide +kernel
theorem dX3_coal_9 : decode cX3_coal 9 = .ok (.invokestatic 30, 3) := by decide +kernel
theorem dX3_coal_12 : decode cX3_coal 12 = .ok (.aload_n 0, 1) := by decide +kernel
theorem dX3_coal_13 : decode cX3_coal 13 = .ok (.getfield 10, 3) := by decide +kernel
theorem dX3_coal_16 : decode cX3_coal 16 = .ok (.getfield 45, 3) := by decide +kernel
theorem dX3_coal_19 : decode cX3_coal 19 = .ok (.iload_n 1, 1) := by decide +kernel
theorem dX3_coal_20 : decode cX3_coal 20 = .ok (.aaload, 1) := by decide +kernel
theorem dX3_coal_21 : decode cX3_coal 21 = .ok (.astore_n 3, 1) := by decide +kernel
theorem dX3_coal_22 : decode cX3_coal 22 = .ok (.iload_n 2, 1) := by decide +kernel
theorem dX3_coal_23 : decode cX3_coal 23 = .ok (.iconst 4, 1) := by decide +kernel
theorem dX3_coal_24 : decode cX3_coal 24 = .ok (.iadd, 1) := by decide +kernel
theorem dX3_coal_25 : decode cX3_coal 25 = .ok (.iconst 1, 1) := by decide +kernel
theorem dX3_coal_26 : decode cX3_coal 26 = .ok (.isub, 1) := by decide +kernel
theorem dX3_coal_27 : decode cX3_coal 27 = .ok (.iconst 4, 1) := by decide +kernel
theorem dX3_coal_28 : decode cX3_coal 28 = .ok (.idiv, 1) := by decide +kernel
theorem dX3_coal_29 : decode cX3_coal 29 = .ok (.istore 4, 2) := by decide +kernel
theorem dX3_coal_31 : decode cX3_coal 31 = .ok (.iload 4, 2) := by decide +kernel
theorem dX3_coal_33 : decode cX3_coal 33 = .ok (.aload_n 3, 1) := by decide +kernel
theorem dX3_coal_34 : decode cX3_coal 34 = .ok (.getfield 64, 3) := by decide +kernel
theorem dX3_coal_37 : decode cX3_coal 37 = .ok (.if_icmp .gt 14, 3) := by decide +kernel
theorem dX3_coal_40 : decode cX3_coal 40 = .ok (.aload_n 3, 1) := by decide +kernel
theorem dX3_coal_41 : decode cX3_coal 41 = .ok (.getfield 67, 3) := by decide +kernel
theorem dX3_coal_44 : decode cX3_coal 44 = .ok (.iload_n 2, 1) := by decide +kernel
theorem dX3_coal_45 : decode cX3_coal 45 = .ok (.iadd, 1) := by decide +kernel
theorem dX3_coal_46 : decode cX3_coal 46 = .ok (.bipush 99, 2) := by decide +kernel
theorem dX3_coal_48 : decode cX3_coal 48 = .ok (.if_icmp .le 13, 3) := by decide +kernel
theorem dX3_coal_51 : decode cX3_coal 51 = .ok (.new 38, 3) := by decide +kernel
theorem dX3_coal_54 : decode cX3_coal 54 = .ok (.dup, 1) := by decide +kernel
theorem dX3_coal_55 : decode cX3_coal 55 = .ok (.ldc 70, 2) := by decide +kernel
theorem dX3_coal_57 : decode cX3_coal 57 = .ok (.invokespecial 42, 3) := by decide +kernel
theorem dX3_coal_60 : decode cX3_coal 60 = .ok (.athrow, 1) := by decide +kernel
theorem dX3_coal_61 : decode cX3_coal 61 = .ok (.aload_n 3, 1) := by decide +kernel
theorem dX3_coal_62 : decode cX3_coal 62 = .ok (.dup, 1) := by decide +kernel
theorem dX3_coal_63 : decode cX3_coal 63 = .ok (.getfield 64, 3) := by decide +kernel
theorem dX3_coal_66 : decode cX3_coal 66 = .ok (.iload 4, 2) := by decide +kernel
theorem dX3_coal_68 : decode cX3_coal 68 = .ok (.isub, 1) := by decide +kernel
theorem dX3_coal_69 : decode cX3_coal 69 = .ok (.putfield 64, 3) := by decide +kernel
theorem dX3_coal_72 : decode cX3_coal 72 = .ok (.aload_n 3, 1) := by decide +kernel
theorem dX3_coal_73 : decode cX3_coal 73 = .ok (.dup, 1) := by decide +kernel
theorem dX3_coal_74 : decode cX3_coal 74 = .ok (.getfield 67, 3) := by decide +kernel
theorem dX3_coal_77 : decode cX3_coal 77 = .ok (.iload_n 2, 1) := by decide +kernel
theorem dX3_coal_78 : decode cX3_coal 78 = .ok (.iadd, 1) := by decide +kernel
theorem dX3_coal_79 : decode cX3_coal 79 = .ok (.putfield 67, 3) := by decide +kernel
theorem dX3_coal_82 : decode cX3_coal 82 = .ok (.aload_n 3, 1) := by decide +kernel
theorem dX3_coal_83 : decode cX3_coal 83 = .ok (.getfield 67, 3) := by decide +kernel
theorem dX3_coal_86 : decode cX3_coal 86 = .ok (.ireturn, 1) := by decide +kernel
theorem dX3_make_0 : decode cX3_make 0 = .ok (.aload_n 0, 1) := by decide +kernel
theorem dX3_make_1 : decode cX3_make 1 = .ok (.iload_n 1, 1) := by decide +kernel
theorem dX3_make_2 : decode cX3_make 2 = .ok (.invokevirtual 52, 3) := by decide +kernel
theorem dX3_make_5 : decode cX3_make 5 = .ok (.iload_n 2, 1) := by decide +kernel
theorem dX3_make_6 : decode cX3_make 6 = .ok (.iconst 4, 1) := by decide +kernel
theorem dX3_make_7 : decode cX3_make 7 = .ok (.invokestatic 26, 3) := by decide +kernel
theorem dX3_make_10 : decode cX3_make 10 = .ok (.aload_n 0, 1) := by decide +kernel
theorem dX3_make_11 : decode cX3_make 11 = .ok (.getfield 10, 3) := by decide +kernel
theorem dX3_make_14 : decode cX3_make 14 = .ok (.getfield 45, 3) := by decide +kernel
theorem dX3_make_17 : decode cX3_make 17 = .ok (.iload_n 1, 1) := by decide +kernel
theorem dX3_make_18 : decode cX3_make 18 = .ok (.aaload, 1) := by decide +kernel
theorem dX3_make_19 : decode cX3_make 19 = .ok (.getfield 72, 3) := by decide +kernel
theorem dX3_make_22 : decode cX3_make 22 = .ok (.istore_n 3, 1) := by decide +kernel
theorem dX3_make_23 : decode cX3_make 23 = .ok (.aload_n 0, 1) := by decide +kernel
theorem dX3_make_24 : decode cX3_make 24 = .ok (.getfield 10, 3) := by decide +kernel
theorem dX3_make_27 : decode cX3_make 27 = .ok (.getfield 45, 3) := by decide +kernel
theorem dX3_make_30 : decode cX3_make 30 = .ok (.iload_n 1, 1) := by decide +kernel
theorem dX3_make_31 : decode cX3_make 31 = .ok (.aaload, 1) := by decide +kernel
theorem dX3_make_32 : decode cX3_make 32 = .ok (.iload_n 2, 1) := by decide +kernel
theorem dX3_make_33 : decode cX3_make 33 = .ok (.putfield 72, 3) := by decide +kernel
theorem dX3_make_36 : decode cX3_make 36 = .ok (.iload_n 3, 1) := by decide +kernel
theorem dX3_make_37 : decode cX3_make 37 = .ok (.ireturn, 1) := by decide +kernel
theorem dX3_change_0 : decode cX3_change 0 = .ok (.aload_n 0, 1) := by decide +kernel
theorem dX3_change_1 : decode cX3_change 1 = .ok (.iload_n 1, 1) := by decide +kernel
theorem dX3_change_2 : decode cX3_change 2 = .ok (.invokevirtual 52, 3) := by decide +kernel
theorem dX3_change_5 : decode cX3_change 5 = .ok (.iload_n 2, 1) := by decide +kernel
theorem dX3_change_6 : decode cX3_change 6 = .ok (.iconst 4, 1) := by decide +kernel
theorem dX3_change_7 : decode cX3_change 7 = .ok (.invokestatic 26, 3) := by decide +kernel
theorem dX3_change_10 : decode cX3_change 10 = .ok (.aload_n 0, 1) := by decide +kernel
theorem dX3_change_11 : decode cX3_change 11 = .ok (.getfield 10, 3) := by decide +kernel
theorem dX3_change_14 : decode cX3_change 14 = .ok (.getfield 45, 3) := by decide +kernel
theorem dX3_change_17 : decode cX3_change 17 = .ok (.iload_n 1, 1) := by decide +kernel
theorem dX3_change_18 : decode cX3_change 18 = .ok (.aaload, 1) := by decide +kernel
theorem dX3_change_19 : decode cX3_change 19 = .ok (.astore_n 3, 1) := by decide +kernel
theorem dX3_change_20 : decode cX3_change 20 = .ok (.aload_n 3, 1) := by decide +kernel
theorem dX3_change_21 : decode cX3_change 21 = .ok (.getfield 56, 3) := by decide +kernel
theorem dX3_change_24 : decode cX3_change 24 = .ok (.ifCond .le 13, 3) := by decide +kernel
theorem dX3_change_27 : decode cX3_change 27 = .ok (.new 38, 3) := by decide +kernel
theorem dX3_change_30 : decode cX3_change 30 = .ok (.dup, 1) := by decide +kernel
theorem dX3_change_31 : decode cX3_change 31 = .ok (.ldc 75, 2) := by decide +kernel
theorem dX3_change_33 : decode cX3_change 33 = .ok (.invokespecial 42, 3) := by decide +kernel
theorem dX3_change_36 : decode cX3_change 36 = .ok (.athrow, 1) := by decide +kernel
theorem dX3_change_37 : decode cX3_change 37 = .ok (.aload_n 3, 1) := by decide +kernel
theorem dX3_change_38 : decode cX3_change 38 = .ok (.getfield 77, 3) := by decide +kernel
theorem dX3_change_41 : decode cX3_change 41 = .ok (.istore 4, 2) := by decide +kernel
theorem dX3_change_43 : decode cX3_change 43 = .ok (.aload_n 3, 1) := by decide +kernel
theorem dX3_change_44 : decode cX3_change 44 = .ok (.iload_n 2, 1) := by decide +kernel
theorem dX3_change_45 : decode cX3_change 45 = .ok (.putfield 77, 3) := by decide +kernel
theorem dX3_change_48 : decode cX3_change 48 = .ok (.iload 4, 2) := by decide +kernel
theorem dX3_change_50 : decode cX3_change 50 = .ok (.ireturn, 1) := by decide +kernel
theorem dX3_told_0 : decode cX3_told 0 = .ok (.aload_n 0, 1) := by decide +kernel
theorem dX3_told_1 : decode cX3_told 1 = .ok (.iload_n 1, 1) := by decide +kernel
theorem dX3_told_2 : decode cX3_told 2 = .ok (.invokevirtual 52, 3) := by decide +kernel
theorem dX3_told_5 : decode cX3_told 5 = .ok (.iload_n 2, 1) := by decide +kernel
theorem dX3_told_6 : decode cX3_told 6 = .ok (.bipush 12, 2) := by decide +kernel
theorem dX3_told_8 : decode cX3_told 8 = .ok (.invokestatic 26, 3) := by decide +kernel
theorem dX3_told_11 : decode cX3_told 11 = .ok (.aload_n 0, 1) := by decide +kernel
theorem dX3_told_12 : decode cX3_told 12 = .ok (.getfield 10, 3) := by decide +kernel
theorem dX3_told_15 : decode cX3_told 15 = .ok (.getfield 45, 3) := by decide +kernel
theorem dX3_told_18 : decode cX3_told 18 = .ok (.iload_n 1, 1) := by decide +kernel
theorem dX3_told_19 : decode cX3_told 19 = .ok (.aaload, 1) := by decide +kernel
theorem dX3_told_20 : decode cX3_told 20 = .ok (.iload_n 2, 1) := by decide +kernel
theorem dX3_told_21 : decode cX3_told 21 = .ok (.invokevirtual 80, 3) := by decide +kernel
theorem dX3_told_24 : decode cX3_told 24 = .ok (.ireturn, 1) := by decide +kernel
theorem dX3_nails_0 : decode cX3_nails 0 = .ok (.aload_n 0, 1) := by decide +kernel
theorem dX3_nails_1 : decode cX3_nails 1 = .ok (.iload_n 1, 1) := by decide +kernel
theorem dX3_nails_2 : decode cX3_nails 2 = .ok (.invokevirtual 52, 3) := by decide +kernel
theorem dX3_nails_5 : decode cX3_nails 5 = .ok (.iload_n 2, 1) := by decide +kernel
theorem dX3_nails_6 : decode cX3_nails 6 = .ok (.iconst 4, 1) := by decide +kernel
theorem dX3_nails_7 : decode cX3_nails 7 = .ok (.invokestatic 26, 3) := by decide +kernel
theorem dX3_nails_10 : decode cX3_nails 10 = .ok (.iload_n 3, 1) := by decide +kernel
theorem dX3_nails_11 : decode cX3_nails 11 = .ok (.iconst 2, 1) := by decide +kernel
theorem dX3_nails_12 : decode cX3_nails 12 = .ok (.invokestatic 26, 3) := by decide +kernel
theorem dX3_nails_15 : decode cX3_nails 15 = .ok (.aload_n 0, 1) := by decide +kernel
theorem dX3_nails_16 : decode cX3_nails 16 = .ok (.getfield 10, 3) := by decide +kernel
theorem dX3_nails_19 : decode cX3_nails 19 = .ok (.getfield 45, 3) := by decide +kernel
theorem dX3_nails_22 : decode cX3_nails 22 = .ok (.iload_n 1, 1) := by decide +kernel
theorem dX3_nails_23 : decode cX3_nails 23 = .ok (.aaload, 1) := by decide +kernel
theorem dX3_nails_24 : decode cX3_nails 24 = .ok (.astore 4, 2) := by decide +kernel
theorem dX3_nails_26 : decode cX3_nails 26 = .ok (.iload_n 3, 1) := by decide +kernel
theorem dX3_nails_27 : decode cX3_nails 27 = .ok (.ifCond .ne 13, 3) := by decide +kernel
theorem dX3_nails_30 : decode cX3_nails 30 = .ok (.aload 4, 2) := by decide +kernel
theorem dX3_nails_32 : decode cX3_nails 32 = .ok (.getfield 84, 3) := by decide +kernel
theorem dX3_nails_35 : decode cX3_nails 35 = .ok (.iload_n 2, 1) := by decide +kernel
theorem dX3_nails_36 : decode cX3_nails 36 = .ok (.iaload, 1) := by decide +kernel
theorem dX3_nails_37 : decode cX3_nails 37 = .ok (.goto 10, 3) := by decide +kernel
theorem dX3_nails_40 : decode cX3_nails 40 = .ok (.aload 4, 2) := by decide +kernel
theorem dX3_nails_42 : decode cX3_nails 42 = .ok (.getfield 88, 3) := by decide +kernel
theorem dX3_nails_45 : decode cX3_nails 45 = .ok (.iload_n 2, 1) := by decide +kernel
theorem dX3_nails_46 : decode cX3_nails 46 = .ok (.iaload, 1) := by decide +kernel
theorem dX3_nails_47 : decode cX3_nails 47 = .ok (.ireturn, 1) := by decide +kernel
theorem dX3_keep_0 : decode cX3_keep 0 = .ok (.iload_n 1, 1) := by decide +kernel
theorem dX3_keep_1 : decode cX3_keep 1 = .ok (.iconst 4, 1) := by decide +kernel
theorem dX3_keep_2 : decode cX3_keep 2 = .ok (.invokestatic 26, 3) := by decide +kernel
theorem dX3_keep_5 : decode cX3_keep 5 = .ok (.iload_n 2, 1) := by decide +kernel
theorem dX3_keep_6 : decode cX3_keep 6 = .ok (.iconst 0, 1) := by decide +kernel
theorem dX3_keep_7 : decode cX3_keep 7 = .ok (.bipush 60, 2) := by decide +kernel
theorem dX3_keep_9 : decode cX3_keep 9 = .ok (.invokestatic 30, 3) := by decide +kernel
theorem dX3_keep_12 : decode cX3_keep 12 = .ok (.aload_n 0, 1) := by decide +kernel
theorem dX3_keep_13 : decode cX3_keep 13 = .ok (.getfield 10, 3) := by decide +kernel
theorem dX3_keep_16 : decode cX3_keep 16 = .ok (.getfield 91, 3) := by decide +kernel
theorem dX3_keep_19 : decode cX3_keep 19 = .ok (.iload_n 1, 1) := by decide +kernel
theorem dX3_keep_20 : decode cX3_keep 20 = .ok (.aaload, 1) := by decide +kernel
theorem dX3_keep_21 : decode cX3_keep 21 = .ok (.getfield 95, 3) := by decide +kernel
theorem dX3_keep_24 : decode cX3_keep 24 = .ok (.istore_n 3, 1) := by decide +kernel
theorem dX3_keep_25 : decode cX3_keep 25 = .ok (.aload_n 0, 1) := by decide +kernel
theorem dX3_keep_26 : decode cX3_keep 26 = .ok (.getfield 10, 3) := by decide +kernel
theorem dX3_keep_29 : decode cX3_keep 29 = .ok (.getfield 91, 3) := by decide +kernel
theorem dX3_keep_32 : decode cX3_keep 32 = .ok (.iload_n 1, 1) := by decide +kernel
theorem dX3_keep_33 : decode cX3_keep 33 = .ok (.aaload, 1) := by decide +kernel
theorem dX3_keep_34 : decode cX3_keep 34 = .ok (.iload_n 2, 1) := by decide +kernel
theorem dX3_keep_35 : decode cX3_keep 35 = .ok (.putfield 95, 3) := by decide +kernel
theorem dX3_keep_38 : decode cX3_keep 38 = .ok (.iload_n 3, 1) := by decide +kernel
theorem dX3_keep_39 : decode cX3_keep 39 = .ok (.ireturn, 1) := by decide +kernel
theorem dX3_fogger_0 : decode cX3_fogger 0 = .ok (.iload_n 1, 1) := by decide +kernel
theorem dX3_fogger_1 : decode cX3_fogger 1 = .ok (.iconst 4, 1) := by decide +kernel
theorem dX3_fogger_2 : decode cX3_fogger 2 = .ok (.invokestatic 26, 3) := by decide +kernel
theorem dX3_fogger_5 : decode cX3_fogger 5 = .ok (.iload_n 2, 1) := by decide +kernel
theorem dX3_fogger_6 : decode cX3_fogger 6 = .ok (.bipush 6, 2) := by decide +kernel
theorem dX3_fogger_8 : decode cX3_fogger 8 = .ok (.invokestatic 26, 3) := by decide +kernel
theorem dX3_fogger_11 : decode cX3_fogger 11 = .ok (.aload_n 0, 1) := by decide +kernel
theorem dX3_fogger_12 : decode cX3_fogger 12 = .ok (.getfield 10, 3) := by decide +kernel
theorem dX3_fogger_15 : decode cX3_fogger 15 = .ok (.iload_n 1, 1) := by decide +kernel
theorem dX3_fogger_16 : decode cX3_fogger 16 = .ok (.iload_n 2, 1) := by decide +kernel
theorem dX3_fogger_17 : decode cX3_fogger 17 = .ok (.invokevirtual 100, 3) := by decide +kernel
theorem dX3_fogger_20 : decode cX3_fogger 20 = .ok (.ireturn, 1) := by decide +kernel
theorem dX3_count_0 : decode cX3_count 0 = .ok (.iload_n 1, 1) := by decide +kernel
theorem dX3_count_1 : decode cX3_count 1 = .ok (.bipush 11, 2) := by decide +kernel
theorem dX3_count_3 : decode cX3_count 3 = .ok (.invokestatic 26, 3) := by decide +kernel
theorem dX3_count_6 : decode cX3_count 6 = .ok (.aload_n 0, 1) := by decide +kernel
theorem dX3_count_7 : decode cX3_count 7 = .ok (.getfield 10, 3) := by decide +kernel
theorem dX3_count_10 : decode cX3_count 10 = .ok (.iload_n 1, 1) := by decide +kernel
theorem dX3_count_11 : decode cX3_count 11 = .ok (.invokevirtual 104, 3) := by decide +kernel
theorem dX3_count_14 : decode cX3_count 14 = .ok (.ireturn, 1) := by decide +kernel
theorem dX3_pass_0 : decode cX3_pass 0 = .ok (.iload_n 1, 1) := by decide +kernel
theorem dX3_pass_1 : decode cX3_pass 1 = .ok (.iconst 1, 1) := by decide +kernel
theorem dX3_pass_2 : decode cX3_pass 2 = .ok (.sipush 240, 3) := by decide +kernel
theorem dX3_pass_5 : decode cX3_pass 5 = .ok (.invokestatic 30, 3) := by decide +kernel
theorem dX3_pass_8 : decode cX3_pass 8 = .ok (.aload_n 0, 1) := by decide +kernel
theorem dX3_pass_9 : decode cX3_pass 9 = .ok (.getfield 10, 3) := by decide +kernel
theorem dX3_pass_12 : decode cX3_pass 12 = .ok (.iload_n 1, 1) := by decide +kernel
theorem dX3_pass_13 : decode cX3_pass 13 = .ok (.invokevirtual 107, 3) := by decide +kernel
theorem dX3_pass_16 : decode cX3_pass 16 = .ok (.ireturn, 1) := by decide +kernel
theorem dX3_rate_0 : decode cX3_rate 0 = .ok (.aload_n 0, 1) := by decide +kernel
theorem dX3_rate_1 : decode cX3_rate 1 = .ok (.iload_n 1, 1) := by decide +kernel
theorem dX3_rate_2 : decode cX3_rate 2 = .ok (.invokevirtual 52, 3) := by decide +kernel
theorem dX3_rate_5 : decode cX3_rate 5 = .ok (.aload_n 0, 1) := by decide +kernel
theorem dX3_rate_6 : decode cX3_rate 6 = .ok (.getfield 22, 3) := by decide +kernel
theorem dX3_rate_9 : decode cX3_rate 9 = .ok (.aload_n 0, 1) := by decide +kernel
theorem dX3_rate_10 : decode cX3_rate 10 = .ok (.getfield 10, 3) := by decide +kernel
theorem dX3_rate_13 : decode cX3_rate 13 = .ok (.getfield 45, 3) := by decide +kernel
theorem dX3_rate_16 : decode cX3_rate 16 = .ok (.iload_n 1, 1) := by decide +kernel
theorem dX3_rate_17 : decode cX3_rate 17 = .ok (.aaload, 1) := by decide +kernel
theorem dX3_rate_18 : decode cX3_rate 18 = .ok (.invokevirtual 110, 3) := by decide +kernel
theorem dX3_rate_21 : decode cX3_rate 21 = .ok (.aload_n 0, 1) := by decide +kernel
theorem dX3_rate_22 : decode cX3_rate 22 = .ok (.getfield 22, 3) := by decide +kernel
theorem dX3_rate_25 : decode cX3_rate 25 = .ok (.iconst 1, 1) := by decide +kernel
theorem dX3_rate_26 : decode cX3_rate 26 = .ok (.invokevirtual 114, 3) := by decide +kernel
theorem dX3_rate_29 : decode cX3_rate 29 = .ok (.ireturn, 1) := by decide +kernel
theorem dX3_when_0 : decode cX3_when 0 = .ok (.aload_n 0, 1) := by decide +kernel
theorem dX3_when_1 : decode cX3_when 1 = .ok (.iload_n 1, 1) := by decide +kernel
theorem dX3_when_2 : decode cX3_when 2 = .ok (.invokevirtual 52, 3) := by decide +kernel
theorem dX3_when_5 : decode cX3_when 5 = .ok (.iload_n 2, 1) := by decide +kernel
theorem dX3_when_6 : decode cX3_when 6 = .ok (.iconst 1, 1) := by decide +kernel
theorem dX3_when_7 : decode cX3_when 7 = .ok (.sipush 9999, 3) := by decide +kernel
theorem dX3_when_10 : decode cX3_when 10 = .ok (.invokestatic 30, 3) := by decide +kernel
theorem dX3_when_13 : decode cX3_when 13 = .ok (.aload_n 0, 1) := by decide +kernel
theorem dX3_when_14 : decode cX3_when 14 = .ok (.getfield 22, 3) := by decide +kernel
theorem dX3_when_17 : decode cX3_when 17 = .ok (.aload_n 0, 1) := by decide +kernel
theorem dX3_when_18 : decode cX3_when 18 = .ok (.getfield 10, 3) := by decide +kernel
theorem dX3_when_21 : decode cX3_when 21 = .ok (.getfield 45, 3) := by decide +kernel
theorem dX3_when_24 : decode cX3_when 24 = .ok (.iload_n 1, 1) := by decide +kernel
theorem dX3_when_25 : decode cX3_when 25 = .ok (.aaload, 1) := by decide +kernel
theorem dX3_when_26 : decode cX3_when 26 = .ok (.invokevirtual 110, 3) := by decide +kernel
theorem dX3_when_29 : decode cX3_when 29 = .ok (.iconst 0, 1) := by decide +kernel
theorem dX3_when_30 : decode cX3_when 30 = .ok (.istore_n 3, 1) := by decide +kernel
theorem dX3_when_31 : decode cX3_when 31 = .ok (.iconst 1, 1) := by decide +kernel
theorem dX3_when_32 : decode cX3_when 32 = .ok (.istore 4, 2) := by decide +kernel
theorem dX3_when_34 : decode cX3_when 34 = .ok (.iload 4, 2) := by decide +kernel
theorem dX3_when_36 : decode cX3_when 36 = .ok (.sipush 480, 3) := by decide +kernel
theorem dX3_when_39 : decode cX3_when 39 = .ok (.if_icmp .gt 28, 3) := by decide +kernel
theorem dX3_when_42 : decode cX3_when 42 = .ok (.iload_n 3, 1) := by decide +kernel
theorem dX3_when_43 : decode cX3_when 43 = .ok (.aload_n 0, 1) := by decide +kernel
theorem dX3_when_44 : decode cX3_when 44 = .ok (.getfield 22, 3) := by decide +kernel
theorem dX3_when_47 : decode cX3_when 47 = .ok (.iconst 1, 1) := by decide +kernel
theorem dX3_when_48 : decode cX3_when 48 = .ok (.invokevirtual 114, 3) := by decide +kernel
theorem dX3_when_51 : decode cX3_when 51 = .ok (.iadd, 1) := by decide +kernel
theorem dX3_when_52 : decode cX3_when 52 = .ok (.istore_n 3, 1) := by decide +kernel
theorem dX3_when_53 : decode cX3_when 53 = .ok (.iload_n 3, 1) := by decide +kernel
theorem dX3_when_54 : decode cX3_when 54 = .ok (.iload_n 2, 1) := by decide +kernel
theorem dX3_when_55 : decode cX3_when 55 = .ok (.if_icmp .lt 6, 3) := by decide +kernel
theorem dX3_when_58 : decode cX3_when 58 = .ok (.iload 4, 2) := by decide +kernel
theorem dX3_when_60 : decode cX3_when 60 = .ok (.ireturn, 1) := by decide +kernel
theorem dX3_when_61 : decode cX3_when 61 = .ok (.iinc 4 1, 3) := by decide +kernel
theorem dX3_when_64 : decode cX3_when 64 = .ok (.goto (-30), 3) := by decide +kernel
theorem dX3_when_67 : decode cX3_when 67 = .ok (.iconst (-1), 1) := by decide +kernel
theorem dX3_when_68 : decode cX3_when 68 = .ok (.ireturn, 1) := by decide +kernel
theorem dX3_foresee_0 : decode cX3_foresee 0 = .ok (.iload_n 1, 1) := by decide +kernel
theorem dX3_foresee_1 : decode cX3_foresee 1 = .ok (.iconst 1, 1) := by decide +kernel
theorem dX3_foresee_2 : decode cX3_foresee 2 = .ok (.sipush 240, 3) := by decide +kernel
theorem dX3_foresee_5 : decode cX3_foresee 5 = .ok (.invokestatic 30, 3) := by decide +kernel
theorem dX3_foresee_8 : decode cX3_foresee 8 = .ok (.iload_n 2, 1) := by decide +kernel
theorem dX3_foresee_9 : decode cX3_foresee 9 = .ok (.iconst 3, 1) := by decide +kernel
theorem dX3_foresee_10 : decode cX3_foresee 10 = .ok (.if_icmp .lt 9, 3) := by decide +kernel
theorem dX3_foresee_13 : decode cX3_foresee 13 = .ok (.iload_n 2, 1) := by decide +kernel
theorem dX3_foresee_14 : decode cX3_foresee 14 = .ok (.bipush 8, 2) := by decide +kernel
theorem dX3_foresee_16 : decode cX3_foresee 16 = .ok (.if_icmp .le 13, 3) := by decide +kernel
theorem dX3_foresee_19 : decode cX3_foresee 19 = .ok (.new 117, 3) := by decide +kernel
theorem dX3_foresee_22 : decode cX3_foresee 22 = .ok (.dup, 1) := by decide +kernel
theorem dX3_foresee_23 : decode cX3_foresee 23 = .ok (.ldc 119, 2) := by decide +kernel
theorem dX3_foresee_25 : decode cX3_foresee 25 = .ok (.invokespecial 121, 3) := by decide +kernel
theorem dX3_foresee_28 : decode cX3_foresee 28 = .ok (.athrow, 1) := by decide +kernel
theorem dX3_foresee_29 : decode cX3_foresee 29 = .ok (.aload_n 0, 1) := by decide +kernel
theorem dX3_foresee_30 : decode cX3_foresee 30 = .ok (.getfield 16, 3) := by decide +kernel
theorem dX3_foresee_33 : decode cX3_foresee 33 = .ok (.aload_n 0, 1) := by decide +kernel
theorem dX3_foresee_34 : decode cX3_foresee 34 = .ok (.getfield 10, 3) := by decide +kernel
theorem dX3_foresee_37 : decode cX3_foresee 37 = .ok (.invokevirtual 122, 3) := by decide +kernel
theorem dX3_foresee_40 : decode cX3_foresee 40 = .ok (.aload_n 0, 1) := by decide +kernel
theorem dX3_foresee_41 : decode cX3_foresee 41 = .ok (.getfield 16, 3) := by decide +kernel
theorem dX3_foresee_44 : decode cX3_foresee 44 = .ok (.iload_n 1, 1) := by decide +kernel
theorem dX3_foresee_45 : decode cX3_foresee 45 = .ok (.invokevirtual 107, 3) := by decide +kernel
theorem dX3_foresee_48 : decode cX3_foresee 48 = .ok (.pop, 1) := by decide +kernel
theorem dX3_foresee_49 : decode cX3_foresee 49 = .ok (.aload_n 0, 1) := by decide +kernel
theorem dX3_foresee_50 : decode cX3_foresee 50 = .ok (.getfield 16, 3) := by decide +kernel
theorem dX3_foresee_53 : decode cX3_foresee 53 = .ok (.iload_n 2, 1) := by decide +kernel
theorem dX3_foresee_54 : decode cX3_foresee 54 = .ok (.invokevirtual 104, 3) := by decide +kernel
theorem dX3_foresee_57 : decode cX3_foresee 57 = .ok (.ireturn, 1) := by decide +kernel
theorem dX3_advise_0 : decode cX3_advise 0 = .ok (.aload_n 0, 1) := by decide +kernel
theorem dX3_advise_1 : decode cX3_advise 1 = .ok (.iload_n 1, 1) := by decide +kernel
theorem dX3_advise_2 : decode cX3_advise 2 = .ok (.invokevirtual 52, 3) := by decide +kernel
theorem dX3_advise_5 : decode cX3_advise 5 = .ok (.iload_n 2, 1) := by decide +kernel
theorem dX3_advise_6 : decode cX3_advise 6 = .ok (.iconst 1, 1) := by decide +kernel
theorem dX3_advise_7 : decode cX3_advise 7 = .ok (.bipush 120, 2) := by decide +kernel
theorem dX3_advise_9 : decode cX3_advise 9 = .ok (.invokestatic 30, 3) := by decide +kernel
theorem dX3_advise_12 : decode cX3_advise 12 = .ok (.iconst 0, 1) := by decide +kernel
theorem dX3_advise_13 : decode cX3_advise 13 = .ok (.istore_n 3, 1) := by decide +kernel
theorem dX3_advise_14 : decode cX3_advise 14 = .ok (.iconst (-1), 1) := by decide +kernel
theorem dX3_advise_15 : decode cX3_advise 15 = .ok (.istore 4, 2) := by decide +kernel
theorem dX3_advise_17 : decode cX3_advise 17 = .ok (.iconst 0, 1) := by decide +kernel
theorem dX3_advise_18 : decode cX3_advise 18 = .ok (.istore 5, 2) := by decide +kernel
theorem dX3_advise_20 : decode cX3_advise 20 = .ok (.iload 5, 2) := by decide +kernel
theorem dX3_advise_22 : decode cX3_advise 22 = .ok (.iconst 4, 1) := by decide +kernel
theorem dX3_advise_23 : decode cX3_advise 23 = .ok (.if_icmp .ge 65, 3) := by decide +kernel
theorem dX3_advise_26 : decode cX3_advise 26 = .ok (.aload_n 0, 1) := by decide +kernel
theorem dX3_advise_27 : decode cX3_advise 27 = .ok (.getfield 22, 3) := by decide +kernel
theorem dX3_advise_30 : decode cX3_advise 30 = .ok (.aload_n 0, 1) := by decide +kernel
theorem dX3_advise_31 : decode cX3_advise 31 = .ok (.getfield 10, 3) := by decide +kernel
theorem dX3_advise_34 : decode cX3_advise 34 = .ok (.getfield 45, 3) := by decide +kernel
theorem dX3_advise_37 : decode cX3_advise 37 = .ok (.iload_n 1, 1) := by decide +kernel
theorem dX3_advise_38 : decode cX3_advise 38 = .ok (.aaload, 1) := by decide +kernel
theorem dX3_advise_39 : decode cX3_advise 39 = .ok (.invokevirtual 110, 3) := by decide +kernel
theorem dX3_advise_42 : decode cX3_advise 42 = .ok (.aload_n 0, 1) := by decide +kernel
theorem dX3_advise_43 : decode cX3_advise 43 = .ok (.getfield 22, 3) := by decide +kernel
theorem dX3_advise_46 : decode cX3_advise 46 = .ok (.iload 5, 2) := by decide +kernel
theorem dX3_advise_48 : decode cX3_advise 48 = .ok (.putfield 72, 3) := by decide +kernel
theorem dX3_advise_51 : decode cX3_advise 51 = .ok (.aload_n 0, 1) := by decide +kernel
theorem dX3_advise_52 : decode cX3_advise 52 = .ok (.getfield 22, 3) := by decide +kernel
theorem dX3_advise_55 : decode cX3_advise 55 = .ok (.iload_n 2, 1) := by decide +kernel
theorem dX3_advise_56 : decode cX3_advise 56 = .ok (.invokevirtual 114, 3) := by decide +kernel
theorem dX3_advise_59 : decode cX3_advise 59 = .ok (.getstatic 125, 3) := by decide +kernel
theorem dX3_advise_62 : decode cX3_advise 62 = .ok (.iload 5, 2) := by decide +kernel
theorem dX3_advise_64 : decode cX3_advise 64 = .ok (.iaload, 1) := by decide +kernel
theorem dX3_advise_65 : decode cX3_advise 65 = .ok (.imul, 1) := by decide +kernel
theorem dX3_advise_66 : decode cX3_advise 66 = .ok (.istore 6, 2) := by decide +kernel
theorem dX3_advise_68 : decode cX3_advise 68 = .ok (.iload 6, 2) := by decide +kernel
theorem dX3_advise_70 : decode cX3_advise 70 = .ok (.iload 4, 2) := by decide +kernel
theorem dX3_advise_72 : decode cX3_advise 72 = .ok (.if_icmp .le 10, 3) := by decide +kernel
theorem dX3_advise_75 : decode cX3_advise 75 = .ok (.iload 5, 2) := by decide +kernel
theorem dX3_advise_77 : decode cX3_advise 77 = .ok (.istore_n 3, 1) := by decide +kernel
theorem dX3_advise_78 : decode cX3_advise 78 = .ok (.iload 6, 2) := by decide +kernel
theorem dX3_advise_80 : decode cX3_advise 80 = .ok (.istore 4, 2) := by decide +kernel
theorem dX3_advise_82 : decode cX3_advise 82 = .ok (.iinc 5 1, 3) := by decide +kernel
theorem dX3_advise_85 : decode cX3_advise 85 = .ok (.goto (-65), 3) := by decide +kernel
theorem dX3_advise_88 : decode cX3_advise 88 = .ok (.iload_n 3, 1) := by decide +kernel
theorem dX3_advise_89 : decode cX3_advise 89 = .ok (.ireturn, 1) := by decide +kernel
theorem dX3_richest_0 : decode cX3_richest 0 = .ok (.iconst (-1), 1) := by decide +kernel
theorem dX3_richest_1 : decode cX3_richest 1 = .ok (.istore_n 1, 1) := by decide +kernel
theorem dX3_richest_2 : decode cX3_richest 2 = .ok (.iconst 0, 1) := by decide +kernel
theorem dX3_richest_3 : decode cX3_richest 3 = .ok (.istore_n 2, 1) := by decide +kernel
theorem dX3_richest_4 : decode cX3_richest 4 = .ok (.iconst 0, 1) := by decide +kernel
theorem dX3_richest_5 : decode cX3_richest 5 = .ok (.istore_n 3, 1) := by decide +kernel
theorem dX3_richest_6 : decode cX3_richest 6 = .ok (.iload_n 3, 1) := by decide +kernel
theorem dX3_richest_7 : decode cX3_richest 7 = .ok (.aload_n 0, 1) := by decide +kernel
theorem dX3_richest_8 : decode cX3_richest 8 = .ok (.getfield 10, 3) := by decide +kernel
theorem dX3_richest_11 : decode cX3_richest 11 = .ok (.getfield 34, 3) := by decide +kernel
theorem dX3_richest_14 : decode cX3_richest 14 = .ok (.if_icmp .ge 51, 3) := by decide +kernel
theorem dX3_richest_17 : decode cX3_richest 17 = .ok (.aload_n 0, 1) := by decide +kernel
theorem dX3_richest_18 : decode cX3_richest 18 = .ok (.getfield 10, 3) := by decide +kernel
theorem dX3_richest_21 : decode cX3_richest 21 = .ok (.getfield 45, 3) := by decide +kernel
theorem dX3_richest_24 : decode cX3_richest 24 = .ok (.iload_n 3, 1) := by decide +kernel
theorem dX3_richest_25 : decode cX3_richest 25 = .ok (.aaload, 1) := by decide +kernel
theorem dX3_richest_26 : decode cX3_richest 26 = .ok (.getfield 64, 3) := by decide +kernel
theorem dX3_richest_29 : decode cX3_richest 29 = .ok (.aload_n 0, 1) := by decide +kernel
theorem dX3_richest_30 : decode cX3_richest 30 = .ok (.getfield 10, 3) := by decide +kernel
theorem dX3_richest_33 : decode cX3_richest 33 = .ok (.getfield 45, 3) := by decide +kernel
theorem dX3_richest_36 : decode cX3_richest 36 = .ok (.iload_n 3, 1) := by decide +kernel
theorem dX3_richest_37 : decode cX3_richest 37 = .ok (.aaload, 1) := by decide +kernel
theorem dX3_richest_38 : decode cX3_richest 38 = .ok (.getfield 56, 3) := by decide +kernel
theorem dX3_richest_41 : decode cX3_richest 41 = .ok (.isub, 1) := by decide +kernel
theorem dX3_richest_42 : decode cX3_richest 42 = .ok (.istore 4, 2) := by decide +kernel
theorem dX3_richest_44 : decode cX3_richest 44 = .ok (.iload_n 1, 1) := by decide +kernel
theorem dX3_richest_45 : decode cX3_richest 45 = .ok (.ifCond .lt 9, 3) := by decide +kernel
theorem dX3_richest_48 : decode cX3_richest 48 = .ok (.iload 4, 2) := by decide +kernel
theorem dX3_richest_50 : decode cX3_richest 50 = .ok (.iload_n 2, 1) := by decide +kernel
theorem dX3_richest_51 : decode cX3_richest 51 = .ok (.if_icmp .le 8, 3) := by decide +kernel
theorem dX3_richest_54 : decode cX3_richest 54 = .ok (.iload_n 3, 1) := by decide +kernel
theorem dX3_richest_55 : decode cX3_richest 55 = .ok (.istore_n 1, 1) := by decide +kernel
theorem dX3_richest_56 : decode cX3_richest 56 = .ok (.iload 4, 2) := by decide +kernel
theorem dX3_richest_58 : decode cX3_richest 58 = .ok (.istore_n 2, 1) := by decide +kernel
theorem dX3_richest_59 : decode cX3_richest 59 = .ok (.iinc 3 1, 3) := by decide +kernel
theorem dX3_richest_62 : decode cX3_richest 62 = .ok (.goto (-56), 3) := by decide +kernel
theorem dX3_richest_65 : decode cX3_richest 65 = .ok (.iload_n 1, 1) := by decide +kernel
theorem dX3_richest_66 : decode cX3_richest 66 = .ok (.ireturn, 1) := by decide +kernel
theorem dX3_mean_0 : decode cX3_mean 0 = .ok (.aload_n 0, 1) := by decide +kernel
theorem dX3_mean_1 : decode cX3_mean 1 = .ok (.getfield 10, 3) := by decide +kernel
theorem dX3_mean_4 : decode cX3_mean 4 = .ok (.getfield 34, 3) := by decide +kernel
theorem dX3_mean_7 : decode cX3_mean 7 = .ok (.ifCond .ne 5, 3) := by decide +kernel
theorem dX3_mean_10 : decode cX3_mean 10 = .ok (.dconst 0, 1) := by decide +kernel
theorem dX3_mean_11 : decode cX3_mean 11 = .ok (.dreturn, 1) := by decide +kernel
theorem dX3_mean_12 : decode cX3_mean 12 = .ok (.iconst 0, 1) := by decide +kernel
theorem dX3_mean_13 : decode cX3_mean 13 = .ok (.istore_n 1, 1) := by decide +kernel
theorem dX3_mean_14 : decode cX3_mean 14 = .ok (.iconst 0, 1) := by decide +kernel
theorem dX3_mean_15 : decode cX3_mean 15 = .ok (.istore_n 2, 1) := by decide +kernel
theorem dX3_mean_16 : decode cX3_mean 16 = .ok (.iload_n 2, 1) := by decide +kernel
theorem dX3_mean_17 : decode cX3_mean 17 = .ok (.aload_n 0, 1) := by decide +kernel
theorem dX3_mean_18 : decode cX3_mean 18 = .ok (.getfield 10, 3) := by decide +kernel
theorem dX3_mean_21 : decode cX3_mean 21 = .ok (.getfield 34, 3) := by decide +kernel
theorem dX3_mean_24 : decode cX3_mean 24 = .ok (.if_icmp .ge 24, 3) := by decide +kernel
theorem dX3_mean_27 : decode cX3_mean 27 = .ok (.iload_n 1, 1) := by decide +kernel
theorem dX3_mean_28 : decode cX3_mean 28 = .ok (.aload_n 0, 1) := by decide +kernel
theorem dX3_mean_29 : decode cX3_mean 29 = .ok (.getfield 10, 3) := by decide +kernel
theorem dX3_mean_32 : decode cX3_mean 32 = .ok (.getfield 45, 3) := by decide +kernel
theorem dX3_mean_35 : decode cX3_mean 35 = .ok (.iload_n 2, 1) := by decide +kernel
theorem dX3_mean_36 : decode cX3_mean 36 = .ok (.aaload, 1) := by decide +kernel
theorem dX3_mean_37 : decode cX3_mean 37 = .ok (.getfield 128, 3) := by decide +kernel
theorem dX3_mean_40 : decode cX3_mean 40 = .ok (.iadd, 1) := by decide +kernel
theorem dX3_mean_41 : decode cX3_mean 41 = .ok (.istore_n 1, 1) := by decide +kernel
theorem dX3_mean_42 : decode cX3_mean 42 = .ok (.iinc 2 1, 3) := by decide +kernel
theorem dX3_mean_45 : decode cX3_mean 45 = .ok (.goto (-29), 3) := by decide +kernel
theorem dX3_mean_48 : decode cX3_mean 48 = .ok (.iload_n 1, 1) := by decide +kernel
theorem dX3_mean_49 : decode cX3_mean 49 = .ok (.i2d, 1) := by decide +kernel
theorem dX3_mean_50 : decode cX3_mean 50 = .ok (.aload_n 0, 1) := by decide +kernel
theorem dX3_mean_51 : decode cX3_mean 51 = .ok (.getfield 10, 3) := by decide +kernel
theorem dX3_mean_54 : decode cX3_mean 54 = .ok (.getfield 34, 3) := by decide +kernel
theorem dX3_mean_57 : decode cX3_mean 57 = .ok (.i2d, 1) := by decide +kernel
theorem dX3_mean_58 : decode cX3_mean 58 = .ok (.ddiv, 1) := by decide +kernel
theorem dX3_mean_59 : decode cX3_mean 59 = .ok (.dreturn, 1) := by decide +kernel
theorem dX3_digest_0 : decode cX3_digest 0 = .ok (.ldc2_w 131, 3) := by decide +kernel
theorem dX3_digest_3 : decode cX3_digest 3 = .ok (.lstore_n 1, 1) := by decide +kernel
theorem dX3_digest_4 : decode cX3_digest 4 = .ok (.iconst 0, 1) := by decide +kernel
theorem dX3_digest_5 : decode cX3_digest 5 = .ok (.istore_n 3, 1) := by decide +kernel
theorem dX3_digest_6 : decode cX3_digest 6 = .ok (.iload_n 3, 1) := by decide +kernel
theorem dX3_digest_7 : decode cX3_digest 7 = .ok (.bipush 11, 2) := by decide +kernel
theorem dX3_digest_9 : decode cX3_digest 9 = .ok (.if_icmp .ge 25, 3) := by decide +kernel
theorem dX3_digest_12 : decode cX3_digest 12 = .ok (.lload_n 1, 1) := by decide +kernel
theorem dX3_digest_13 : decode cX3_digest 13 = .ok (.ldc2_w 133, 3) := by decide +kernel
theorem dX3_digest_16 : decode cX3_digest 16 = .ok (.lmul, 1) := by decide +kernel
theorem dX3_digest_17 : decode cX3_digest 17 = .ok (.aload_n 0, 1) := by decide +kernel
theorem dX3_digest_18 : decode cX3_digest 18 = .ok (.getfield 10, 3) := by decide +kernel
theorem dX3_digest_21 : decode cX3_digest 21 = .ok (.iload_n 3, 1) := by decide +kernel
theorem dX3_digest_22 : decode cX3_digest 22 = .ok (.invokevirtual 104, 3) := by decide +kernel
theorem dX3_digest_25 : decode cX3_digest 25 = .ok (.i2l, 1) := by decide +kernel
theorem dX3_digest_26 : decode cX3_digest 26 = .ok (.ladd, 1) := by decide +kernel
theorem dX3_digest_27 : decode cX3_digest 27 = .ok (.lstore_n 1, 1) := by decide +kernel
theorem dX3_digest_28 : decode cX3_digest 28 = .ok (.iinc 3 1, 3) := by decide +kernel
theorem dX3_digest_31 : decode cX3_digest 31 = .ok (.goto (-25), 3) := by decide +kernel
theorem dX3_digest_34 : decode cX3_digest 34 = .ok (.iconst 0, 1) := by decide +kernel
theorem dX3_digest_35 : decode cX3_digest 35 = .ok (.istore_n 3, 1) := by decide +kernel
theorem dX3_digest_36 : decode cX3_digest 36 = .ok (.iload_n 3, 1) := by decide +kernel
theorem dX3_digest_37 : decode cX3_digest 37 = .ok (.aload_n 0, 1) := by decide +kernel
theorem dX3_digest_38 : decode cX3_digest 38 = .ok (.getfield 10, 3) := by decide +kernel
theorem dX3_digest_41 : decode cX3_digest 41 = .ok (.getfield 34, 3) := by decide +kernel
theorem dX3_digest_44 : decode cX3_digest 44 = .ok (.if_icmp .ge 23, 3) := by decide +kernel
theorem dX3_digest_47 : decode cX3_digest 47 = .ok (.aload_n 0, 1) := by decide +kernel
theorem dX3_digest_48 : decode cX3_digest 48 = .ok (.getfield 10, 3) := by decide +kernel
theorem dX3_digest_51 : decode cX3_digest 51 = .ok (.getfield 45, 3) := by decide +kernel
theorem dX3_digest_54 : decode cX3_digest 54 = .ok (.iload_n 3, 1) := by decide +kernel
theorem dX3_digest_55 : decode cX3_digest 55 = .ok (.aaload, 1) := by decide +kernel
theorem dX3_digest_56 : decode cX3_digest 56 = .ok (.lload_n 1, 1) := by decide +kernel
theorem dX3_digest_57 : decode cX3_digest 57 = .ok (.invokevirtual 135, 3) := by decide +kernel
theorem dX3_digest_60 : decode cX3_digest 60 = .ok (.lstore_n 1, 1) := by decide +kernel
theorem dX3_digest_61 : decode cX3_digest 61 = .ok (.iinc 3 1, 3) := by decide +kernel
theorem dX3_digest_64 : decode cX3_digest 64 = .ok (.goto (-28), 3) := by decide +kernel
theorem dX3_digest_67 : decode cX3_digest 67 = .ok (.iconst 0, 1) := by decide +kernel
theorem dX3_digest_68 : decode cX3_digest 68 = .ok (.istore_n 3, 1) := by decide +kernel
theorem dX3_digest_69 : decode cX3_digest 69 = .ok (.iload_n 3, 1) := by decide +kernel
theorem dX3_digest_70 : decode cX3_digest 70 = .ok (.iconst 4, 1) := by decide +kernel
theorem dX3_digest_71 : decode cX3_digest 71 = .ok (.if_icmp .ge 43, 3) := by decide +kernel
theorem dX3_digest_74 : decode cX3_digest 74 = .ok (.iconst 0, 1) := by decide +kernel
theorem dX3_digest_75 : decode cX3_digest 75 = .ok (.istore 4, 2) := by decide +kernel
theorem dX3_digest_77 : decode cX3_digest 77 = .ok (.iload 4, 2) := by decide +kernel
theorem dX3_digest_79 : decode cX3_digest 79 = .ok (.bipush 6, 2) := by decide +kernel
theorem dX3_digest_81 : decode cX3_digest 81 = .ok (.if_icmp .ge 27, 3) := by decide +kernel
theorem dX3_digest_84 : decode cX3_digest 84 = .ok (.lload_n 1, 1) := by decide +kernel
theorem dX3_digest_85 : decode cX3_digest 85 = .ok (.ldc2_w 133, 3) := by decide +kernel
theorem dX3_digest_88 : decode cX3_digest 88 = .ok (.lmul, 1) := by decide +kernel
theorem dX3_digest_89 : decode cX3_digest 89 = .ok (.aload_n 0, 1) := by decide +kernel
theorem dX3_digest_90 : decode cX3_digest 90 = .ok (.getfield 10, 3) := by decide +kernel
theorem dX3_digest_93 : decode cX3_digest 93 = .ok (.iload_n 3, 1) := by decide +kernel
theorem dX3_digest_94 : decode cX3_digest 94 = .ok (.iload 4, 2) := by decide +kernel
theorem dX3_digest_96 : decode cX3_digest 96 = .ok (.invokevirtual 100, 3) := by decide +kernel
theorem dX3_digest_99 : decode cX3_digest 99 = .ok (.i2l, 1) := by decide +kernel
theorem dX3_digest_100 : decode cX3_digest 100 = .ok (.ladd, 1) := by decide +kernel
theorem dX3_digest_101 : decode cX3_digest 101 = .ok (.lstore_n 1, 1) := by decide +kernel
theorem dX3_digest_102 : decode cX3_digest 102 = .ok (.iinc 4 1, 3) := by decide +kernel
theorem dX3_digest_105 : decode cX3_digest 105 = .ok (.goto (-28), 3) := by decide +kernel
theorem dX3_digest_108 : decode cX3_digest 108 = .ok (.iinc 3 1, 3) := by decide +kernel
theorem dX3_digest_111 : decode cX3_digest 111 = .ok (.goto (-42), 3) := by decide +kernel
theorem dX3_digest_114 : decode cX3_digest 114 = .ok (.lload_n 1, 1) := by decide +kernel
theorem dX3_digest_115 : decode cX3_digest 115 = .ok (.lreturn, 1) := by decide +kernel
theorem dX3_needNailer_0 : decode cX3_needNailer 0 = .ok (.iload_n 1, 1) := by decide +kernel
theorem dX3_needNailer_1 : decode cX3_needNailer 1 = .ok (.aload_n 0, 1) := by decide +kernel
theorem dX3_needNailer_2 : decode cX3_needNailer 2 = .ok (.getfield 10, 3) := by decide +kernel
theorem dX3_needNailer_5 : decode cX3_needNailer 5 = .ok (.getfield 34, 3) := by decide +kernel
theorem dX3_needNailer_8 : decode cX3_needNailer 8 = .ok (.invokestatic 26, 3) := by decide +kernel
theorem dX3_needNailer_11 : decode cX3_needNailer 11 = .ok (.return_, 1) := by decide +kernel
theorem dX3_needIndex_0 : decode cX3_needIndex 0 = .ok (.iload_n 0, 1) := by decide +kernel
theorem dX3_needIndex_1 : decode cX3_needIndex 1 = .ok (.ifCond .lt 8, 3) := by decide +kernel
theorem dX3_needIndex_4 : decode cX3_needIndex 4 = .ok (.iload_n 0, 1) := by decide +kernel
theorem dX3_needIndex_5 : decode cX3_needIndex 5 = .ok (.iload_n 1, 1) := by decide +kernel
theorem dX3_needIndex_6 : decode cX3_needIndex 6 = .ok (.if_icmp .lt 13, 3) := by decide +kernel
theorem dX3_needIndex_9 : decode cX3_needIndex 9 = .ok (.new 117, 3) := by decide +kernel
theorem dX3_needIndex_12 : decode cX3_needIndex 12 = .ok (.dup, 1) := by decide +kernel
theorem dX3_needIndex_13 : decode cX3_needIndex 13 = .ok (.ldc 139, 2) := by decide +kernel
theorem dX3_needIndex_15 : decode cX3_needIndex 15 = .ok (.invokespecial 121, 3) := by decide +kernel
theorem dX3_needIndex_18 : decode cX3_needIndex 18 = .ok (.athrow, 1) := by decide +kernel
theorem dX3_needIndex_19 : decode cX3_needIndex 19 = .ok (.return_, 1) := by decide +kernel
theorem dX3_needWithin_0 : decode cX3_needWithin 0 = .ok (.iload_n 0, 1) := by decide +kernel
theorem dX3_needWithin_1 : decode cX3_needWithin 1 = .ok (.iload_n 1, 1) := by decide +kernel
theorem dX3_needWithin_2 : decode cX3_needWithin 2 = .ok (.if_icmp .lt 8, 3) := by decide +kernel
theorem dX3_needWithin_5 : decode cX3_needWithin 5 = .ok (.iload_n 0, 1) := by decide +kernel
theorem dX3_needWithin_6 : decode cX3_needWithin 6 = .ok (.iload_n 2, 1) := by decide +kernel
theorem dX3_needWithin_7 : decode cX3_needWithin 7 = .ok (.if_icmp .le 13, 3) := by decide +kernel
theorem dX3_needWithin_10 : decode cX3_needWithin 10 = .ok (.new 141, 3) := by decide +kernel
theorem dX3_needWithin_13 : decode cX3_needWithin 13 = .ok (.dup, 1) := by decide +kernel
theorem dX3_needWithin_14 : decode cX3_needWithin 14 = .ok (.ldc 143, 2) := by decide +kernel
theorem dX3_needWithin_16 : decode cX3_needWithin 16 = .ok (.invokespecial 145, 3) := by decide +kernel
theorem dX3_needWithin_19 : decode cX3_needWithin 19 = .ok (.athrow, 1) := by decide +kernel
theorem dX3_needWithin_20 : decode cX3_needWithin 20 = .ok (.return_, 1) := by decide +kernel
end
section
/-! what the instructions are, by program -/
theorem dX4_thrown_0 : decode cX4_thrown 0 = .ok (.aload_n 0, 1) := by decide +kernel
theorem dX4_thrown_1 : decode cX4_thrown 1 = .ok (.getfield 1, 3) := by decide +kernel
theorem dX4_thrown_4 : decode cX4_thrown 4 = .ok (.ireturn, 1) := by decide +kernel
theorem dX4_no_0 : decode cX4_no 0 = .ok (.aload_n 0, 1) := by decide +kernel
theorem dX4_no_1 : decode cX4_no 1 = .ok (.iload_n 1, 1) := by decide +kernel
theorem dX4_no_2 : decode cX4_no 2 = .ok (.putfield 1, 3) := by decide +kernel
theorem dX4_no_5 : decode cX4_no 5 = .ok (.iconst 0, 1) := by decide +kernel
theorem dX4_no_6 : decode cX4_no 6 = .ok (.ireturn, 1) := by decide +kernel
theorem dX4_isIn_0 : decode cX4_isIn 0 = .ok (.iload_n 0, 1) := by decide +kernel
theorem dX4_isIn_1 : decode cX4_isIn 1 = .ok (.iload_n 1, 1) := by decide +kernel
theorem dX4_isIn_2 : decode cX4_isIn 2 = .ok (.if_icmp .lt 12, 3) := by decide +kernel
theorem dX4_isIn_5 : decode cX4_isIn 5 = .ok (.iload_n 0, 1) := by decide +kernel
theorem dX4_isIn_6 : decode cX4_isIn 6 = .ok (.iload_n 2, 1) := by decide +kernel
theorem dX4_isIn_7 : decode cX4_isIn 7 = .ok (.if_icmp .gt 7, 3) := by decide +kernel
theorem dX4_isIn_10 : decode cX4_isIn 10 = .ok (.iconst 1, 1) := by decide +kernel
theorem dX4_isIn_11 : decode cX4_isIn 11 = .ok (.goto 4, 3) := by decide +kernel
theorem dX4_isIn_14 : decode cX4_isIn 14 = .ok (.iconst 0, 1) := by decide +kernel
theorem dX4_isIn_15 : decode cX4_isIn 15 = .ok (.ireturn, 1) := by decide +kernel
theorem dX4_init_0 : decode cX4_init 0 = .ok (.aload_n 0, 1) := by decide +kernel
theorem dX4_init_1 : decode cX4_init 1 = .ok (.invokespecial 7, 3) := by decide +kernel
theorem dX4_init_4 : decode cX4_init 4 = .ok (.aload_n 0, 1) := by decide +kernel
theorem dX4_init_5 : decode cX4_init 5 = .ok (.sipush 240, 3) := by decide +kernel
theorem dX4_init_8 : decode cX4_init 8 = .ok (.newarray .int, 2) := by decide +kernel
theorem dX4_init_10 : decode cX4_init 10 = .ok (.putfield 13, 3) := by decide +kernel
theorem dX4_init_13 : decode cX4_init 13 = .ok (.aload_n 0, 1) := by decide +kernel
theorem dX4_init_14 : decode cX4_init 14 = .ok (.bipush 20, 2) := by decide +kernel
theorem dX4_init_16 : decode cX4_init 16 = .ok (.newarray .int, 2) := by decide +kernel
theorem dX4_init_18 : decode cX4_init 18 = .ok (.putfield 17, 3) := by decide +kernel
theorem dX4_init_21 : decode cX4_init 21 = .ok (.aload_n 0, 1) := by decide +kernel
theorem dX4_init_22 : decode cX4_init 22 = .ok (.sipush 240, 3) := by decide +kernel
theorem dX4_init_25 : decode cX4_init 25 = .ok (.newarray .int, 2) := by decide +kernel
theorem dX4_init_27 : decode cX4_init 27 = .ok (.putfield 20, 3) := by decide +kernel
theorem dX4_init_30 : decode cX4_init 30 = .ok (.aload_n 0, 1) := by decide +kernel
theorem dX4_init_31 : decode cX4_init 31 = .ok (.bipush 20, 2) := by decide +kernel
theorem dX4_init_33 : decode cX4_init 33 = .ok (.newarray .int, 2) := by decide +kernel
theorem dX4_init_35 : decode cX4_init 35 = .ok (.putfield 23, 3) := by decide +kernel
theorem dX4_init_38 : decode cX4_init 38 = .ok (.aload_n 0, 1) := by decide +kernel
theorem dX4_init_39 : decode cX4_init 39 = .ok (.iconst 4, 1) := by decide +kernel
theorem dX4_init_40 : decode cX4_init 40 = .ok (.newarray .int, 2) := by decide +kernel
theorem dX4_init_42 : decode cX4_init 42 = .ok (.putfield 26, 3) := by decide +kernel
theorem dX4_init_45 : decode cX4_init 45 = .ok (.iconst 0, 1) := by decide +kernel
theorem dX4_init_46 : decode cX4_init 46 = .ok (.istore_n 1, 1) := by decide +kernel
theorem dX4_init_47 : decode cX4_init 47 = .ok (.iload_n 1, 1) := by decide +kernel
theorem dX4_init_48 : decode cX4_init 48 = .ok (.iconst 4, 1) := by decide +kernel
theorem dX4_init_49 : decode cX4_init 49 = .ok (.if_icmp .ge 33, 3) := by decide +kernel
theorem dX4_init_52 : decode cX4_init 52 = .ok (.aload_n 0, 1) := by decide +kernel
theorem dX4_init_53 : decode cX4_init 53 = .ok (.getfield 17, 3) := by decide +kernel
theorem dX4_init_56 : decode cX4_init 56 = .ok (.iconst 5, 1) := by decide +kernel
theorem dX4_init_57 : decode cX4_init 57 = .ok (.iload_n 1, 1) := by decide +kernel
theorem dX4_init_58 : decode cX4_init 58 = .ok (.imul, 1) := by decide +kernel
theorem dX4_init_59 : decode cX4_init 59 = .ok (.iconst 0, 1) := by decide +kernel
theorem dX4_init_60 : decode cX4_init 60 = .ok (.iadd, 1) := by decide +kernel
theorem dX4_init_61 : decode cX4_init 61 = .ok (.bipush 20, 2) := by decide +kernel
theorem dX4_init_63 : decode cX4_init 63 = .ok (.iastore, 1) := by decide +kernel
theorem dX4_init_64 : decode cX4_init 64 = .ok (.aload_n 0, 1) := by decide +kernel
theorem dX4_init_65 : decode cX4_init 65 = .ok (.getfield 17, 3) := by decide +kernel
theorem dX4_init_68 : decode cX4_init 68 = .ok (.iconst 5, 1) := by decide +kernel
theorem dX4_init_69 : decode cX4_init 69 = .ok (.iload_n 1, 1) := by decide +kernel
theorem dX4_init_70 : decode cX4_init 70 = .ok (.imul, 1) := by decide +kernel
theorem dX4_init_71 : decode cX4_init 71 = .ok (.iconst 1, 1) := by decide +kernel
theorem dX4_init_72 : decode cX4_init 72 = .ok (.iadd, 1) := by decide +kernel
theorem dX4_init_73 : decode cX4_init 73 = .ok (.bipush 60, 2) := by decide +kernel
theorem dX4_init_75 : decode cX4_init 75 = .ok (.iastore, 1) := by decide +kernel
theorem dX4_init_76 : decode cX4_init 76 = .ok (.iinc 1 1, 3) := by decide +kernel
theorem dX4_init_79 : decode cX4_init 79 = .ok (.goto (-32), 3) := by decide +kernel
theorem dX4_init_82 : decode cX4_init 82 = .ok (.return_, 1) := by decide +kernel
theorem dX4_isThere_0 : decode cX4_isThere 0 = .ok (.iload_n 1, 1) := by decide +kernel
theorem dX4_isThere_1 : decode cX4_isThere 1 = .ok (.iconst 0, 1) := by decide +kernel
theorem dX4_isThere_2 : decode cX4_isThere 2 = .ok (.aload_n 0, 1) := by decide +kernel
theorem dX4_isThere_3 : decode cX4_isThere 3 = .ok (.getfield 29, 3) := by decide +kernel
theorem dX4_isThere_6 : decode cX4_isThere 6 = .ok (.iconst 1, 1) := by decide +kernel
theorem dX4_isThere_7 : decode cX4_isThere 7 = .ok (.isub, 1) := by decide +kernel
theorem dX4_isThere_8 : decode cX4_isThere 8 = .ok (.invokestatic 32, 3) := by decide +kernel
theorem dX4_isThere_11 : decode cX4_isThere 11 = .ok (.ireturn, 1) := by decide +kernel
theorem dX4_isFour_0 : decode cX4_isFour 0 = .ok (.iload_n 0, 1) := by decide +kernel
theorem dX4_isFour_1 : decode cX4_isFour 1 = .ok (.iconst 0, 1) := by decide +kernel
theorem dX4_isFour_2 : decode cX4_isFour 2 = .ok (.iconst 3, 1) := by decide +kernel
theorem dX4_isFour_3 : decode cX4_isFour 3 = .ok (.invokestatic 32, 3) := by decide +kernel
theorem dX4_isFour_6 : decode cX4_isFour 6 = .ok (.ireturn, 1) := by decide +kernel
theorem dX4_work_0 : decode cX4_work 0 = .ok (.aload_n 1, 1) := by decide +kernel
theorem dX4_work_1 : decode cX4_work 1 = .ok (.iload_n 2, 1) := by decide +kernel
theorem dX4_work_2 : decode cX4_work 2 = .ok (.bipush 6, 2) := by decide +kernel
theorem dX4_work_4 : decode cX4_work 4 = .ok (.iadd, 1) := by decide +kernel
theorem dX4_work_5 : decode cX4_work 5 = .ok (.iaload, 1) := by decide +kernel
theorem dX4_work_6 : decode cX4_work 6 = .ok (.ifCond .le 7, 3) := by decide +kernel
theorem dX4_work_9 : decode cX4_work 9 = .ok (.iconst 1, 1) := by decide +kernel
theorem dX4_work_10 : decode cX4_work 10 = .ok (.goto 4, 3) := by decide +kernel
theorem dX4_work_13 : decode cX4_work 13 = .ok (.iconst 0, 1) := by decide +kernel
theorem dX4_work_14 : decode cX4_work 14 = .ok (.istore_n 3, 1) := by decide +kernel
theorem dX4_work_15 : decode cX4_work 15 = .ok (.iload_n 3, 1) := by decide +kernel
theorem dX4_work_16 : decode cX4_work 16 = .ok (.ifCond .eq 13, 3) := by decide +kernel
theorem dX4_work_19 : decode cX4_work 19 = .ok (.aload_n 1, 1) := by decide +kernel
theorem dX4_work_20 : decode cX4_work 20 = .ok (.iload_n 2, 1) := by decide +kernel
theorem dX4_work_21 : decode cX4_work 21 = .ok (.bipush 6, 2) := by decide +kernel
theorem dX4_work_23 : decode cX4_work 23 = .ok (.iadd, 1) := by decide +kernel
theorem dX4_work_24 : decode cX4_work 24 = .ok (.dup2, 1) := by decide +kernel
theorem dX4_work_25 : decode cX4_work 25 = .ok (.iaload, 1) := by decide +kernel
theorem dX4_work_26 : decode cX4_work 26 = .ok (.iconst 1, 1) := by decide +kernel
theorem dX4_work_27 : decode cX4_work 27 = .ok (.isub, 1) := by decide +kernel
theorem dX4_work_28 : decode cX4_work 28 = .ok (.iastore, 1) := by decide +kernel
theorem dX4_work_29 : decode cX4_work 29 = .ok (.aload_n 1, 1) := by decide +kernel
theorem dX4_work_30 : decode cX4_work 30 = .ok (.iload_n 2, 1) := by decide +kernel
theorem dX4_work_31 : decode cX4_work 31 = .ok (.iconst 5, 1) := by decide +kernel
theorem dX4_work_32 : decode cX4_work 32 = .ok (.iadd, 1) := by decide +kernel
theorem dX4_work_33 : decode cX4_work 33 = .ok (.iload_n 3, 1) := by decide +kernel
theorem dX4_work_34 : decode cX4_work 34 = .ok (.ifCond .eq 18, 3) := by decide +kernel
theorem dX4_work_37 : decode cX4_work 37 = .ok (.bipush 9, 2) := by decide +kernel
theorem dX4_work_39 : decode cX4_work 39 = .ok (.aload_n 1, 1) := by decide +kernel
theorem dX4_work_40 : decode cX4_work 40 = .ok (.iload_n 2, 1) := by decide +kernel
theorem dX4_work_41 : decode cX4_work 41 = .ok (.iconst 5, 1) := by decide +kernel
theorem dX4_work_42 : decode cX4_work 42 = .ok (.iadd, 1) := by decide +kernel
theorem dX4_work_43 : decode cX4_work 43 = .ok (.iaload, 1) := by decide +kernel
theorem dX4_work_44 : decode cX4_work 44 = .ok (.iconst 2, 1) := by decide +kernel
theorem dX4_work_45 : decode cX4_work 45 = .ok (.iadd, 1) := by decide +kernel
theorem dX4_work_46 : decode cX4_work 46 = .ok (.invokestatic 36, 3) := by decide +kernel
theorem dX4_work_49 : decode cX4_work 49 = .ok (.goto 14, 3) := by decide +kernel
theorem dX4_work_52 : decode cX4_work 52 = .ok (.iconst 0, 1) := by decide +kernel
theorem dX4_work_53 : decode cX4_work 53 = .ok (.aload_n 1, 1) := by decide +kernel
theorem dX4_work_54 : decode cX4_work 54 = .ok (.iload_n 2, 1) := by decide +kernel
theorem dX4_work_55 : decode cX4_work 55 = .ok (.iconst 5, 1) := by decide +kernel
theorem dX4_work_56 : decode cX4_work 56 = .ok (.iadd, 1) := by decide +kernel
theorem dX4_work_57 : decode cX4_work 57 = .ok (.iaload, 1) := by decide +kernel
theorem dX4_work_58 : decode cX4_work 58 = .ok (.iconst 3, 1) := by decide +kernel
theorem dX4_work_59 : decode cX4_work 59 = .ok (.isub, 1) := by decide +kernel
theorem dX4_work_60 : decode cX4_work 60 = .ok (.invokestatic 42, 3) := by decide +kernel
theorem dX4_work_63 : decode cX4_work 63 = .ok (.iastore, 1) := by decide +kernel
theorem dX4_work_64 : decode cX4_work 64 = .ok (.aload_n 1, 1) := by decide +kernel
theorem dX4_work_65 : decode cX4_work 65 = .ok (.iload_n 2, 1) := by decide +kernel
theorem dX4_work_66 : decode cX4_work 66 = .ok (.iconst 5, 1) := by decide +kernel
theorem dX4_work_67 : decode cX4_work 67 = .ok (.iadd, 1) := by decide +kernel
theorem dX4_work_68 : decode cX4_work 68 = .ok (.iaload, 1) := by decide +kernel
theorem dX4_work_69 : decode cX4_work 69 = .ok (.istore 4, 2) := by decide +kernel
theorem dX4_work_71 : decode cX4_work 71 = .ok (.aload_n 1, 1) := by decide +kernel
theorem dX4_work_72 : decode cX4_work 72 = .ok (.iload_n 2, 1) := by decide +kernel
theorem dX4_work_73 : decode cX4_work 73 = .ok (.iconst 1, 1) := by decide +kernel
theorem dX4_work_74 : decode cX4_work 74 = .ok (.iadd, 1) := by decide +kernel
theorem dX4_work_75 : decode cX4_work 75 = .ok (.iaload, 1) := by decide +kernel
theorem dX4_work_76 : decode cX4_work 76 = .ok (.istore 5, 2) := by decide +kernel
theorem dX4_work_78 : decode cX4_work 78 = .ok (.iload 4, 2) := by decide +kernel
theorem dX4_work_80 : decode cX4_work 80 = .ok (.iconst 4, 1) := by decide +kernel
theorem dX4_work_81 : decode cX4_work 81 = .ok (.if_icmp .ge 7, 3) := by decide +kernel
theorem dX4_work_84 : decode cX4_work 84 = .ok (.iconst 0, 1) := by decide +kernel
theorem dX4_work_85 : decode cX4_work 85 = .ok (.goto 18, 3) := by decide +kernel
theorem dX4_work_88 : decode cX4_work 88 = .ok (.aload_n 1, 1) := by decide +kernel
theorem dX4_work_89 : decode cX4_work 89 = .ok (.iload_n 2, 1) := by decide +kernel
theorem dX4_work_90 : decode cX4_work 90 = .ok (.iconst 0, 1) := by decide +kernel
theorem dX4_work_91 : decode cX4_work 91 = .ok (.iadd, 1) := by decide +kernel
theorem dX4_work_92 : decode cX4_work 92 = .ok (.iaload, 1) := by decide +kernel
theorem dX4_work_93 : decode cX4_work 93 = .ok (.iload 4, 2) := by decide +kernel
theorem dX4_work_95 : decode cX4_work 95 = .ok (.imul, 1) := by decide +kernel
theorem dX4_work_96 : decode cX4_work 96 = .ok (.iconst 2, 1) := by decide +kernel
theorem dX4_work_97 : decode cX4_work 97 = .ok (.imul, 1) := by decide +kernel
theorem dX4_work_98 : decode cX4_work 98 = .ok (.iload 5, 2) := by decide +kernel
theorem dX4_work_100 : decode cX4_work 100 = .ok (.iconst 1, 1) := by decide +kernel
theorem dX4_work_101 : decode cX4_work 101 = .ok (.iadd, 1) := by decide +kernel
theorem dX4_work_102 : decode cX4_work 102 = .ok (.idiv, 1) := by decide +kernel
theorem dX4_work_103 : decode cX4_work 103 = .ok (.istore 6, 2) := by decide +kernel
theorem dX4_work_105 : decode cX4_work 105 = .ok (.iconst 0, 1) := by decide +kernel
theorem dX4_work_106 : decode cX4_work 106 = .ok (.istore 7, 2) := by decide +kernel
theorem dX4_work_108 : decode cX4_work 108 = .ok (.iload 7, 2) := by decide +kernel
theorem dX4_work_110 : decode cX4_work 110 = .ok (.iload 6, 2) := by decide +kernel
theorem dX4_work_112 : decode cX4_work 112 = .ok (.if_icmp .ge 32, 3) := by decide +kernel
theorem dX4_work_115 : decode cX4_work 115 = .ok (.aload_n 0, 1) := by decide +kernel
theorem dX4_work_116 : decode cX4_work 116 = .ok (.aload_n 1, 1) := by decide +kernel
theorem dX4_work_117 : decode cX4_work 117 = .ok (.iload_n 2, 1) := by decide +kernel
theorem dX4_work_118 : decode cX4_work 118 = .ok (.invokevirtual 45, 3) := by decide +kernel
theorem dX4_work_121 : decode cX4_work 121 = .ok (.ifCond .eq 23, 3) := by decide +kernel
theorem dX4_work_124 : decode cX4_work 124 = .ok (.aload_n 1, 1) := by decide +kernel
theorem dX4_work_125 : decode cX4_work 125 = .ok (.iload_n 2, 1) := by decide +kernel
theorem dX4_work_126 : decode cX4_work 126 = .ok (.iconst 4, 1) := by decide +kernel
theorem dX4_work_127 : decode cX4_work 127 = .ok (.iadd, 1) := by decide +kernel
theorem dX4_work_128 : decode cX4_work 128 = .ok (.dup2, 1) := by decide +kernel
theorem dX4_work_129 : decode cX4_work 129 = .ok (.iaload, 1) := by decide +kernel
theorem dX4_work_130 : decode cX4_work 130 = .ok (.getstatic 49, 3) := by decide +kernel
theorem dX4_work_133 : decode cX4_work 133 = .ok (.iload 5, 2) := by decide +kernel
theorem dX4_work_135 : decode cX4_work 135 = .ok (.iaload, 1) := by decide +kernel
theorem dX4_work_136 : decode cX4_work 136 = .ok (.isub, 1) := by decide +kernel
theorem dX4_work_137 : decode cX4_work 137 = .ok (.iastore, 1) := by decide +kernel
theorem dX4_work_138 : decode cX4_work 138 = .ok (.iinc 7 1, 3) := by decide +kernel
theorem dX4_work_141 : decode cX4_work 141 = .ok (.goto (-33), 3) := by decide +kernel
theorem dX4_work_144 : decode cX4_work 144 = .ok (.iload 4, 2) := by decide +kernel
theorem dX4_work_146 : decode cX4_work 146 = .ok (.bipush 8, 2) := by decide +kernel
theorem dX4_work_148 : decode cX4_work 148 = .ok (.if_icmp .lt 11, 3) := by decide +kernel
theorem dX4_work_151 : decode cX4_work 151 = .ok (.iload 7, 2) := by decide +kernel
theorem dX4_work_153 : decode cX4_work 153 = .ok (.bipush 10, 2) := by decide +kernel
theorem dX4_work_155 : decode cX4_work 155 = .ok (.idiv, 1) := by decide +kernel
theorem dX4_work_156 : decode cX4_work 156 = .ok (.goto 4, 3) := by decide +kernel
theorem dX4_work_159 : decode cX4_work 159 = .ok (.iconst 0, 1) := by decide +kernel
theorem dX4_work_160 : decode cX4_work 160 = .ok (.istore 8, 2) := by decide +kernel
theorem dX4_work_162 : decode cX4_work 162 = .ok (.aload_n 1, 1) := by decide +kernel
theorem dX4_work_163 : decode cX4_work 163 = .ok (.iload_n 2, 1) := by decide +kernel
theorem dX4_work_164 : decode cX4_work 164 = .ok (.bipush 10, 2) := by decide +kernel
theorem dX4_work_166 : decode cX4_work 166 = .ok (.iadd, 1) := by decide +kernel
theorem dX4_work_167 : decode cX4_work 167 = .ok (.dup2, 1) := by decide +kernel
theorem dX4_work_168 : decode cX4_work 168 = .ok (.iaload, 1) := by decide +kernel
theorem dX4_work_169 : decode cX4_work 169 = .ok (.iload 8, 2) := by decide +kernel
theorem dX4_work_171 : decode cX4_work 171 = .ok (.iadd, 1) := by decide +kernel
theorem dX4_work_172 : decode cX4_work 172 = .ok (.iastore, 1) := by decide +kernel
theorem dX4_work_173 : decode cX4_work 173 = .ok (.aload_n 1, 1) := by decide +kernel
theorem dX4_work_174 : decode cX4_work 174 = .ok (.iload_n 2, 1) := by decide +kernel
theorem dX4_work_175 : decode cX4_work 175 = .ok (.bipush 11, 2) := by decide +kernel
theorem dX4_work_177 : decode cX4_work 177 = .ok (.iadd, 1) := by decide +kernel
theorem dX4_work_178 : decode cX4_work 178 = .ok (.dup2, 1) := by decide +kernel
theorem dX4_work_179 : decode cX4_work 179 = .ok (.iaload, 1) := by decide +kernel
theorem dX4_work_180 : decode cX4_work 180 = .ok (.iload 7, 2) := by decide +kernel
theorem dX4_work_182 : decode cX4_work 182 = .ok (.iload 8, 2) := by decide +kernel
theorem dX4_work_184 : decode cX4_work 184 = .ok (.isub, 1) := by decide +kernel
theorem dX4_work_185 : decode cX4_work 185 = .ok (.iadd, 1) := by decide +kernel
theorem dX4_work_186 : decode cX4_work 186 = .ok (.iastore, 1) := by decide +kernel
theorem dX4_work_187 : decode cX4_work 187 = .ok (.aload_n 1, 1) := by decide +kernel
theorem dX4_work_188 : decode cX4_work 188 = .ok (.iload_n 2, 1) := by decide +kernel
theorem dX4_work_189 : decode cX4_work 189 = .ok (.bipush 12, 2) := by decide +kernel
theorem dX4_work_191 : decode cX4_work 191 = .ok (.iadd, 1) := by decide +kernel
theorem dX4_work_192 : decode cX4_work 192 = .ok (.iload 5, 2) := by decide +kernel
theorem dX4_work_194 : decode cX4_work 194 = .ok (.iadd, 1) := by decide +kernel
theorem dX4_work_195 : decode cX4_work 195 = .ok (.dup2, 1) := by decide +kernel
theorem dX4_work_196 : decode cX4_work 196 = .ok (.iaload, 1) := by decide +kernel
theorem dX4_work_197 : decode cX4_work 197 = .ok (.iload 7, 2) := by decide +kernel
theorem dX4_work_199 : decode cX4_work 199 = .ok (.iload 8, 2) := by decide +kernel
theorem dX4_work_201 : decode cX4_work 201 = .ok (.isub, 1) := by decide +kernel
theorem dX4_work_202 : decode cX4_work 202 = .ok (.iadd, 1) := by decide +kernel
theorem dX4_work_203 : decode cX4_work 203 = .ok (.iastore, 1) := by decide +kernel
theorem dX4_work_204 : decode cX4_work 204 = .ok (.aload_n 1, 1) := by decide +kernel
theorem dX4_work_205 : decode cX4_work 205 = .ok (.iload_n 2, 1) := by decide +kernel
theorem dX4_work_206 : decode cX4_work 206 = .ok (.bipush 16, 2) := by decide +kernel
theorem dX4_work_208 : decode cX4_work 208 = .ok (.iadd, 1) := by decide +kernel
theorem dX4_work_209 : decode cX4_work 209 = .ok (.iload 5, 2) := by decide +kernel
theorem dX4_work_211 : decode cX4_work 211 = .ok (.iadd, 1) := by decide +kernel
theorem dX4_work_212 : decode cX4_work 212 = .ok (.dup2, 1) := by decide +kernel
theorem dX4_work_213 : decode cX4_work 213 = .ok (.iaload, 1) := by decide +kernel
theorem dX4_work_214 : decode cX4_work 214 = .ok (.aload_n 1, 1) := by decide +kernel
theorem dX4_work_215 : decode cX4_work 215 = .ok (.iload_n 2, 1) := by decide +kernel
theorem dX4_work_216 : decode cX4_work 216 = .ok (.bipush 12, 2) := by decide +kernel
theorem dX4_work_218 : decode cX4_work 218 = .ok (.iadd, 1) := by decide +kernel
theorem dX4_work_219 : decode cX4_work 219 = .ok (.iload 5, 2) := by decide +kernel
theorem dX4_work_221 : decode cX4_work 221 = .ok (.iadd, 1) := by decide +kernel
theorem dX4_work_222 : decode cX4_work 222 = .ok (.iaload, 1) := by decide +kernel
theorem dX4_work_223 : decode cX4_work 223 = .ok (.sipush 1000, 3) := by decide +kernel
theorem dX4_work_226 : decode cX4_work 226 = .ok (.idiv, 1) := by decide +kernel
theorem dX4_work_227 : decode cX4_work 227 = .ok (.iadd, 1) := by decide +kernel
theorem dX4_work_228 : decode cX4_work 228 = .ok (.iastore, 1) := by decide +kernel
theorem dX4_work_229 : decode cX4_work 229 = .ok (.aload_n 1, 1) := by decide +kernel
theorem dX4_work_230 : decode cX4_work 230 = .ok (.iload_n 2, 1) := by decide +kernel
theorem dX4_work_231 : decode cX4_work 231 = .ok (.bipush 12, 2) := by decide +kernel
theorem dX4_work_233 : decode cX4_work 233 = .ok (.iadd, 1) := by decide +kernel
theorem dX4_work_234 : decode cX4_work 234 = .ok (.iload 5, 2) := by decide +kernel
theorem dX4_work_236 : decode cX4_work 236 = .ok (.iadd, 1) := by decide +kernel
theorem dX4_work_237 : decode cX4_work 237 = .ok (.dup2, 1) := by decide +kernel
theorem dX4_work_238 : decode cX4_work 238 = .ok (.iaload, 1) := by decide +kernel
theorem dX4_work_239 : decode cX4_work 239 = .ok (.sipush 1000, 3) := by decide +kernel
theorem dX4_work_242 : decode cX4_work 242 = .ok (.irem, 1) := by decide +kernel
theorem dX4_work_243 : decode cX4_work 243 = .ok (.iastore, 1) := by decide +kernel
theorem dX4_work_244 : decode cX4_work 244 = .ok (.iload 7, 2) := by decide +kernel
theorem dX4_work_246 : decode cX4_work 246 = .ok (.iload 8, 2) := by decide +kernel
theorem dX4_work_248 : decode cX4_work 248 = .ok (.isub, 1) := by decide +kernel
theorem dX4_work_249 : decode cX4_work 249 = .ok (.ireturn, 1) := by decide +kernel
theorem dX4_hasIron_0 : decode cX4_hasIron 0 = .ok (.aload_n 1, 1) := by decide +kernel
theorem dX4_hasIron_1 : decode cX4_hasIron 1 = .ok (.iload_n 2, 1) := by decide +kernel
theorem dX4_hasIron_2 : decode cX4_hasIron 2 = .ok (.iconst 4, 1) := by decide +kernel
theorem dX4_hasIron_3 : decode cX4_hasIron 3 = .ok (.iadd, 1) := by decide +kernel
theorem dX4_hasIron_4 : decode cX4_hasIron 4 = .ok (.iaload, 1) := by decide +kernel
theorem dX4_hasIron_5 : decode cX4_hasIron 5 = .ok (.getstatic 49, 3) := by decide +kernel
theorem dX4_hasIron_8 : decode cX4_hasIron 8 = .ok (.aload_n 1, 1) := by decide +kernel
theorem dX4_hasIron_9 : decode cX4_hasIron 9 = .ok (.iload_n 2, 1) := by decide +kernel
theorem dX4_hasIron_10 : decode cX4_hasIron 10 = .ok (.iconst 1, 1) := by decide +kernel
theorem dX4_hasIron_11 : decode cX4_hasIron 11 = .ok (.iadd, 1) := by decide +kernel
theorem dX4_hasIron_12 : decode cX4_hasIron 12 = .ok (.iaload, 1) := by decide +kernel
theorem dX4_hasIron_13 : decode cX4_hasIron 13 = .ok (.iaload, 1) := by decide +kernel
theorem dX4_hasIron_14 : decode cX4_hasIron 14 = .ok (.if_icmp .lt 5, 3) := by decide +kernel
theorem dX4_hasIron_17 : decode cX4_hasIron 17 = .ok (.iconst 1, 1) := by decide +kernel
theorem dX4_hasIron_18 : decode cX4_hasIron 18 = .ok (.ireturn, 1) := by decide +kernel
theorem dX4_hasIron_19 : decode cX4_hasIron 19 = .ok (.aload_n 1, 1) := by decide +kernel
theorem dX4_hasIron_20 : decode cX4_hasIron 20 = .ok (.iload_n 2, 1) := by decide +kernel
theorem dX4_hasIron_21 : decode cX4_hasIron 21 = .ok (.iconst 3, 1) := by decide +kernel
theorem dX4_hasIron_22 : decode cX4_hasIron 22 = .ok (.iadd, 1) := by decide +kernel
theorem dX4_hasIron_23 : decode cX4_hasIron 23 = .ok (.iaload, 1) := by decide +kernel
theorem dX4_hasIron_24 : decode cX4_hasIron 24 = .ok (.ifCond .ne 5, 3) := by decide +kernel
theorem dX4_hasIron_27 : decode cX4_hasIron 27 = .ok (.iconst 0, 1) := by decide +kernel
theorem dX4_hasIron_28 : decode cX4_hasIron 28 = .ok (.ireturn, 1) := by decide +kernel
theorem dX4_hasIron_29 : decode cX4_hasIron 29 = .ok (.aload_n 1, 1) := by decide +kernel
theorem dX4_hasIron_30 : decode cX4_hasIron 30 = .ok (.iload_n 2, 1) := by decide +kernel
theorem dX4_hasIron_31 : decode cX4_hasIron 31 = .ok (.iconst 3, 1) := by decide +kernel
theorem dX4_hasIron_32 : decode cX4_hasIron 32 = .ok (.iadd, 1) := by decide +kernel
theorem dX4_hasIron_33 : decode cX4_hasIron 33 = .ok (.dup2, 1) := by decide +kernel
theorem dX4_hasIron_34 : decode cX4_hasIron 34 = .ok (.iaload, 1) := by decide +kernel
theorem dX4_hasIron_35 : decode cX4_hasIron 35 = .ok (.iconst 1, 1) := by decide +kernel
theorem dX4_hasIron_36 : decode cX4_hasIron 36 = .ok (.isub, 1) := by decide +kernel
theorem dX4_hasIron_37 : decode cX4_hasIron 37 = .ok (.iastore, 1) := by decide +kernel
theorem dX4_hasIron_38 : decode cX4_hasIron 38 = .ok (.aload_n 1, 1) := by decide +kernel
theorem dX4_hasIron_39 : decode cX4_hasIron 39 = .ok (.iload_n 2, 1) := by decide +kernel
theorem dX4_hasIron_40 : decode cX4_hasIron 40 = .ok (.bipush 9, 2) := by decide +kernel
theorem dX4_hasIron_42 : decode cX4_hasIron 42 = .ok (.iadd, 1) := by decide +kernel
theorem dX4_hasIron_43 : decode cX4_hasIron 43 = .ok (.dup2, 1) := by decide +kernel
theorem dX4_hasIron_44 : decode cX4_hasIron 44 = .ok (.iaload, 1) := by decide +kernel
theorem dX4_hasIron_45 : decode cX4_hasIron 45 = .ok (.aload_n 1, 1) := by decide +kernel
theorem dX4_hasIron_46 : decode cX4_hasIron 46 = .ok (.iload_n 2, 1) := by decide +kernel
theorem dX4_hasIron_47 : decode cX4_hasIron 47 = .ok (.iconst 4, 1) := by decide +kernel
theorem dX4_hasIron_48 : decode cX4_hasIron 48 = .ok (.iadd, 1) := by decide +kernel
theorem dX4_hasIron_49 : decode cX4_hasIron 49 = .ok (.iaload, 1) := by decide +kernel
theorem dX4_hasIron_50 : decode cX4_hasIron 50 = .ok (.iadd, 1) := by decide +kernel
theorem dX4_hasIron_51 : decode cX4_hasIron 51 = .ok (.iastore, 1) := by decide +kernel
theorem dX4_hasIron_52 : decode cX4_hasIron 52 = .ok (.aload_n 1, 1) := by decide +kernel
theorem dX4_hasIron_53 : decode cX4_hasIron 53 = .ok (.iload_n 2, 1) := by decide +kernel
theorem dX4_hasIron_54 : decode cX4_hasIron 54 = .ok (.iconst 4, 1) := by decide +kernel
theorem dX4_hasIron_55 : decode cX4_hasIron 55 = .ok (.iadd, 1) := by decide +kernel
theorem dX4_hasIron_56 : decode cX4_hasIron 56 = .ok (.sipush 240, 3) := by decide +kernel
theorem dX4_hasIron_59 : decode cX4_hasIron 59 = .ok (.iastore, 1) := by decide +kernel
theorem dX4_hasIron_60 : decode cX4_hasIron 60 = .ok (.iconst 1, 1) := by decide +kernel
theorem dX4_hasIron_61 : decode cX4_hasIron 61 = .ok (.ireturn, 1) := by decide +kernel
theorem dX4_priceOf_0 : decode cX4_priceOf 0 = .ok (.getstatic 52, 3) := by decide +kernel
theorem dX4_priceOf_3 : decode cX4_priceOf 3 = .ok (.iload_n 0, 1) := by decide +kernel
theorem dX4_priceOf_4 : decode cX4_priceOf 4 = .ok (.iaload, 1) := by decide +kernel
theorem dX4_priceOf_5 : decode cX4_priceOf 5 = .ok (.bipush 100, 2) := by decide +kernel
theorem dX4_priceOf_7 : decode cX4_priceOf 7 = .ok (.iload_n 1, 1) := by decide +kernel
theorem dX4_priceOf_8 : decode cX4_priceOf 8 = .ok (.isub, 1) := by decide +kernel
theorem dX4_priceOf_9 : decode cX4_priceOf 9 = .ok (.imul, 1) := by decide +kernel
theorem dX4_priceOf_10 : decode cX4_priceOf 10 = .ok (.bipush 100, 2) := by decide +kernel
theorem dX4_priceOf_12 : decode cX4_priceOf 12 = .ok (.idiv, 1) := by decide +kernel
theorem dX4_priceOf_13 : decode cX4_priceOf 13 = .ok (.ireturn, 1) := by decide +kernel
theorem dX4_reckon_0 : decode cX4_reckon 0 = .ok (.aload_n 1, 1) := by decide +kernel
theorem dX4_reckon_1 : decode cX4_reckon 1 = .ok (.iload_n 3, 1) := by decide +kernel
theorem dX4_reckon_2 : decode cX4_reckon 2 = .ok (.iconst 2, 1) := by decide +kernel
theorem dX4_reckon_3 : decode cX4_reckon 3 = .ok (.iadd, 1) := by decide +kernel
theorem dX4_reckon_4 : decode cX4_reckon 4 = .ok (.iaload, 1) := by decide +kernel
theorem dX4_reckon_5 : decode cX4_reckon 5 = .ok (.istore 5, 2) := by decide +kernel
theorem dX4_reckon_7 : decode cX4_reckon 7 = .ok (.iconst 5, 1) := by decide +kernel
theorem dX4_reckon_8 : decode cX4_reckon 8 = .ok (.iload 5, 2) := by decide +kernel
theorem dX4_reckon_10 : decode cX4_reckon 10 = .ok (.imul, 1) := by decide +kernel
theorem dX4_reckon_11 : decode cX4_reckon 11 = .ok (.istore 6, 2) := by decide +kernel
theorem dX4_reckon_13 : decode cX4_reckon 13 = .ok (.iconst 0, 1) := by decide +kernel
theorem dX4_reckon_14 : decode cX4_reckon 14 = .ok (.istore 7, 2) := by decide +kernel
theorem dX4_reckon_16 : decode cX4_reckon 16 = .ok (.iload 7, 2) := by decide +kernel
theorem dX4_reckon_18 : decode cX4_reckon 18 = .ok (.iconst 4, 1) := by decide +kernel
theorem dX4_reckon_19 : decode cX4_reckon 19 = .ok (.if_icmp .ge 125, 3) := by decide +kernel
theorem dX4_reckon_22 : decode cX4_reckon 22 = .ok (.iload 7, 2) := by decide +kernel
theorem dX4_reckon_24 : decode cX4_reckon 24 = .ok (.aload_n 2, 1) := by decide +kernel
theorem dX4_reckon_25 : decode cX4_reckon 25 = .ok (.iload 6, 2) := by decide +kernel
theorem dX4_reckon_27 : decode cX4_reckon 27 = .ok (.iconst 0, 1) := by decide +kernel
theorem dX4_reckon_28 : decode cX4_reckon 28 = .ok (.iadd, 1) := by decide +kernel
theorem dX4_reckon_29 : decode cX4_reckon 29 = .ok (.iaload, 1) := by decide +kernel
theorem dX4_reckon_30 : decode cX4_reckon 30 = .ok (.invokestatic 55, 3) := by decide +kernel
theorem dX4_reckon_33 : decode cX4_reckon 33 = .ok (.istore 8, 2) := by decide +kernel
theorem dX4_reckon_35 : decode cX4_reckon 35 = .ok (.aload_n 1, 1) := by decide +kernel
theorem dX4_reckon_36 : decode cX4_reckon 36 = .ok (.iload_n 3, 1) := by decide +kernel
theorem dX4_reckon_37 : decode cX4_reckon 37 = .ok (.bipush 16, 2) := by decide +kernel
theorem dX4_reckon_39 : decode cX4_reckon 39 = .ok (.iadd, 1) := by decide +kernel
theorem dX4_reckon_40 : decode cX4_reckon 40 = .ok (.iload 7, 2) := by decide +kernel
theorem dX4_reckon_42 : decode cX4_reckon 42 = .ok (.iadd, 1) := by decide +kernel
theorem dX4_reckon_43 : decode cX4_reckon 43 = .ok (.iaload, 1) := by decide +kernel
theorem dX4_reckon_44 : decode cX4_reckon 44 = .ok (.istore 9, 2) := by decide +kernel
theorem dX4_reckon_46 : decode cX4_reckon 46 = .ok (.iload 9, 2) := by decide +kernel
theorem dX4_reckon_48 : decode cX4_reckon 48 = .ok (.ifCond .le 90, 3) := by decide +kernel
theorem dX4_reckon_51 : decode cX4_reckon 51 = .ok (.aload_n 2, 1) := by decide +kernel
theorem dX4_reckon_52 : decode cX4_reckon 52 = .ok (.iload 6, 2) := by decide +kernel
theorem dX4_reckon_54 : decode cX4_reckon 54 = .ok (.iconst 1, 1) := by decide +kernel
theorem dX4_reckon_55 : decode cX4_reckon 55 = .ok (.iadd, 1) := by decide +kernel
theorem dX4_reckon_56 : decode cX4_reckon 56 = .ok (.iaload, 1) := by decide +kernel
theorem dX4_reckon_57 : decode cX4_reckon 57 = .ok (.iload 8, 2) := by decide +kernel
theorem dX4_reckon_59 : decode cX4_reckon 59 = .ok (.if_icmp .lt 79, 3) := by decide +kernel
theorem dX4_reckon_62 : decode cX4_reckon 62 = .ok (.aload_n 2, 1) := by decide +kernel
theorem dX4_reckon_63 : decode cX4_reckon 63 = .ok (.iload 6, 2) := by decide +kernel
theorem dX4_reckon_65 : decode cX4_reckon 65 = .ok (.iconst 1, 1) := by decide +kernel
theorem dX4_reckon_66 : decode cX4_reckon 66 = .ok (.iadd, 1) := by decide +kernel
theorem dX4_reckon_67 : decode cX4_reckon 67 = .ok (.dup2, 1) := by decide +kernel
theorem dX4_reckon_68 : decode cX4_reckon 68 = .ok (.iaload, 1) := by decide +kernel
theorem dX4_reckon_69 : decode cX4_reckon 69 = .ok (.iload 8, 2) := by decide +kernel
theorem dX4_reckon_71 : decode cX4_reckon 71 = .ok (.isub, 1) := by decide +kernel
theorem dX4_reckon_72 : decode cX4_reckon 72 = .ok (.iastore, 1) := by decide +kernel
theorem dX4_reckon_73 : decode cX4_reckon 73 = .ok (.aload_n 2, 1) := by decide +kernel
theorem dX4_reckon_74 : decode cX4_reckon 74 = .ok (.iload 6, 2) := by decide +kernel
theorem dX4_reckon_76 : decode cX4_reckon 76 = .ok (.iconst 3, 1) := by decide +kernel
theorem dX4_reckon_77 : decode cX4_reckon 77 = .ok (.iadd, 1) := by decide +kernel
theorem dX4_reckon_78 : decode cX4_reckon 78 = .ok (.dup2, 1) := by decide +kernel
theorem dX4_reckon_79 : decode cX4_reckon 79 = .ok (.iaload, 1) := by decide +kernel
theorem dX4_reckon_80 : decode cX4_reckon 80 = .ok (.iload 8, 2) := by decide +kernel
theorem dX4_reckon_82 : decode cX4_reckon 82 = .ok (.iadd, 1) := by decide +kernel
theorem dX4_reckon_83 : decode cX4_reckon 83 = .ok (.iastore, 1) := by decide +kernel
theorem dX4_reckon_84 : decode cX4_reckon 84 = .ok (.aload_n 2, 1) := by decide +kernel
theorem dX4_reckon_85 : decode cX4_reckon 85 = .ok (.iload 6, 2) := by decide +kernel
theorem dX4_reckon_87 : decode cX4_reckon 87 = .ok (.iconst 2, 1) := by decide +kernel
theorem dX4_reckon_88 : decode cX4_reckon 88 = .ok (.iadd, 1) := by decide +kernel
theorem dX4_reckon_89 : decode cX4_reckon 89 = .ok (.dup2, 1) := by decide +kernel
theorem dX4_reckon_90 : decode cX4_reckon 90 = .ok (.iaload, 1) := by decide +kernel
theorem dX4_reckon_91 : decode cX4_reckon 91 = .ok (.iconst 1, 1) := by decide +kernel
theorem dX4_reckon_92 : decode cX4_reckon 92 = .ok (.iadd, 1) := by decide +kernel
theorem dX4_reckon_93 : decode cX4_reckon 93 = .ok (.iastore, 1) := by decide +kernel
theorem dX4_reckon_94 : decode cX4_reckon 94 = .ok (.aload_n 1, 1) := by decide +kernel
theorem dX4_reckon_95 : decode cX4_reckon 95 = .ok (.iload_n 3, 1) := by decide +kernel
theorem dX4_reckon_96 : decode cX4_reckon 96 = .ok (.bipush 7, 2) := by decide +kernel
theorem dX4_reckon_98 : decode cX4_reckon 98 = .ok (.iadd, 1) := by decide +kernel
theorem dX4_reckon_99 : decode cX4_reckon 99 = .ok (.dup2, 1) := by decide +kernel
theorem dX4_reckon_100 : decode cX4_reckon 100 = .ok (.iaload, 1) := by decide +kernel
theorem dX4_reckon_101 : decode cX4_reckon 101 = .ok (.iload 8, 2) := by decide +kernel
theorem dX4_reckon_103 : decode cX4_reckon 103 = .ok (.iadd, 1) := by decide +kernel
theorem dX4_reckon_104 : decode cX4_reckon 104 = .ok (.iastore, 1) := by decide +kernel
theorem dX4_reckon_105 : decode cX4_reckon 105 = .ok (.aload_n 1, 1) := by decide +kernel
theorem dX4_reckon_106 : decode cX4_reckon 106 = .ok (.iload_n 3, 1) := by decide +kernel
theorem dX4_reckon_107 : decode cX4_reckon 107 = .ok (.bipush 16, 2) := by decide +kernel
theorem dX4_reckon_109 : decode cX4_reckon 109 = .ok (.iadd, 1) := by decide +kernel
theorem dX4_reckon_110 : decode cX4_reckon 110 = .ok (.iload 7, 2) := by decide +kernel
theorem dX4_reckon_112 : decode cX4_reckon 112 = .ok (.iadd, 1) := by decide +kernel
theorem dX4_reckon_113 : decode cX4_reckon 113 = .ok (.dup2, 1) := by decide +kernel
theorem dX4_reckon_114 : decode cX4_reckon 114 = .ok (.iaload, 1) := by decide +kernel
theorem dX4_reckon_115 : decode cX4_reckon 115 = .ok (.iconst 1, 1) := by decide +kernel
theorem dX4_reckon_116 : decode cX4_reckon 116 = .ok (.isub, 1) := by decide +kernel
theorem dX4_reckon_117 : decode cX4_reckon 117 = .ok (.iastore, 1) := by decide +kernel
theorem dX4_reckon_118 : decode cX4_reckon 118 = .ok (.aload 4, 2) := by decide +kernel
theorem dX4_reckon_120 : decode cX4_reckon 120 = .ok (.iload 5, 2) := by decide +kernel
theorem dX4_reckon_122 : decode cX4_reckon 122 = .ok (.dup2, 1) := by decide +kernel
theorem dX4_reckon_123 : decode cX4_reckon 123 = .ok (.iaload, 1) := by decide +kernel
theorem dX4_reckon_124 : decode cX4_reckon 124 = .ok (.getstatic 52, 3) := by decide +kernel
theorem dX4_reckon_127 : decode cX4_reckon 127 = .ok (.iload 7, 2) := by decide +kernel
theorem dX4_reckon_129 : decode cX4_reckon 129 = .ok (.iaload, 1) := by decide +kernel
theorem dX4_reckon_130 : decode cX4_reckon 130 = .ok (.iadd, 1) := by decide +kernel
theorem dX4_reckon_131 : decode cX4_reckon 131 = .ok (.iastore, 1) := by decide +kernel
theorem dX4_reckon_132 : decode cX4_reckon 132 = .ok (.iinc 9 (-1), 3) := by decide +kernel
theorem dX4_reckon_135 : decode cX4_reckon 135 = .ok (.goto (-89), 3) := by decide +kernel
theorem dX4_reckon_138 : decode cX4_reckon 138 = .ok (.iinc 7 1, 3) := by decide +kernel
theorem dX4_reckon_141 : decode cX4_reckon 141 = .ok (.goto (-125), 3) := by decide +kernel
theorem dX4_reckon_144 : decode cX4_reckon 144 = .ok (.aload_n 1, 1) := by decide +kernel
theorem dX4_reckon_145 : decode cX4_reckon 145 = .ok (.iload_n 3, 1) := by decide +kernel
theorem dX4_reckon_146 : decode cX4_reckon 146 = .ok (.bipush 7, 2) := by decide +kernel
theorem dX4_reckon_148 : decode cX4_reckon 148 = .ok (.iadd, 1) := by decide +kernel
theorem dX4_reckon_149 : decode cX4_reckon 149 = .ok (.iaload, 1) := by decide +kernel
theorem dX4_reckon_150 : decode cX4_reckon 150 = .ok (.aload_n 1, 1) := by decide +kernel
theorem dX4_reckon_151 : decode cX4_reckon 151 = .ok (.iload_n 3, 1) := by decide +kernel
theorem dX4_reckon_152 : decode cX4_reckon 152 = .ok (.bipush 8, 2) := by decide +kernel
theorem dX4_reckon_154 : decode cX4_reckon 154 = .ok (.iadd, 1) := by decide +kernel
theorem dX4_reckon_155 : decode cX4_reckon 155 = .ok (.iaload, 1) := by decide +kernel
theorem dX4_reckon_156 : decode cX4_reckon 156 = .ok (.invokestatic 36, 3) := by decide +kernel
theorem dX4_reckon_159 : decode cX4_reckon 159 = .ok (.istore 7, 2) := by decide +kernel
theorem dX4_reckon_161 : decode cX4_reckon 161 = .ok (.aload_n 1, 1) := by decide +kernel
theorem dX4_reckon_162 : decode cX4_reckon 162 = .ok (.iload_n 3, 1) := by decide +kernel
theorem dX4_reckon_163 : decode cX4_reckon 163 = .ok (.bipush 7, 2) := by decide +kernel
theorem dX4_reckon_165 : decode cX4_reckon 165 = .ok (.iadd, 1) := by decide +kernel
theorem dX4_reckon_166 : decode cX4_reckon 166 = .ok (.dup2, 1) := by decide +kernel
theorem dX4_reckon_167 : decode cX4_reckon 167 = .ok (.iaload, 1) := by decide +kernel
theorem dX4_reckon_168 : decode cX4_reckon 168 = .ok (.iload 7, 2) := by decide +kernel
theorem dX4_reckon_170 : decode cX4_reckon 170 = .ok (.isub, 1) := by decide +kernel
theorem dX4_reckon_171 : decode cX4_reckon 171 = .ok (.iastore, 1) := by decide +kernel
theorem dX4_reckon_172 : decode cX4_reckon 172 = .ok (.aload_n 1, 1) := by decide +kernel
theorem dX4_reckon_173 : decode cX4_reckon 173 = .ok (.iload_n 3, 1) := by decide +kernel
theorem dX4_reckon_174 : decode cX4_reckon 174 = .ok (.bipush 8, 2) := by decide +kernel
theorem dX4_reckon_176 : decode cX4_reckon 176 = .ok (.iadd, 1) := by decide +kernel
theorem dX4_reckon_177 : decode cX4_reckon 177 = .ok (.dup2, 1) := by decide +kernel
theorem dX4_reckon_178 : decode cX4_reckon 178 = .ok (.iaload, 1) := by decide +kernel
theorem dX4_reckon_179 : decode cX4_reckon 179 = .ok (.iload 7, 2) := by decide +kernel
theorem dX4_reckon_181 : decode cX4_reckon 181 = .ok (.isub, 1) := by decide +kernel
theorem dX4_reckon_182 : decode cX4_reckon 182 = .ok (.iastore, 1) := by decide +kernel
theorem dX4_reckon_183 : decode cX4_reckon 183 = .ok (.aload_n 2, 1) := by decide +kernel
theorem dX4_reckon_184 : decode cX4_reckon 184 = .ok (.iload 6, 2) := by decide +kernel
theorem dX4_reckon_186 : decode cX4_reckon 186 = .ok (.iconst 1, 1) := by decide +kernel
theorem dX4_reckon_187 : decode cX4_reckon 187 = .ok (.iadd, 1) := by decide +kernel
theorem dX4_reckon_188 : decode cX4_reckon 188 = .ok (.dup2, 1) := by decide +kernel
theorem dX4_reckon_189 : decode cX4_reckon 189 = .ok (.iaload, 1) := by decide +kernel
theorem dX4_reckon_190 : decode cX4_reckon 190 = .ok (.iload 7, 2) := by decide +kernel
theorem dX4_reckon_192 : decode cX4_reckon 192 = .ok (.iadd, 1) := by decide +kernel
theorem dX4_reckon_193 : decode cX4_reckon 193 = .ok (.iastore, 1) := by decide +kernel
theorem dX4_reckon_194 : decode cX4_reckon 194 = .ok (.return_, 1) := by decide +kernel
theorem dX4_pass_0 : decode cX4_pass 0 = .ok (.iconst 0, 1) := by decide +kernel
theorem dX4_pass_1 : decode cX4_pass 1 = .ok (.istore 4, 2) := by decide +kernel
theorem dX4_pass_3 : decode cX4_pass 3 = .ok (.iconst 0, 1) := by decide +kernel
theorem dX4_pass_4 : decode cX4_pass 4 = .ok (.istore 5, 2) := by decide +kernel
theorem dX4_pass_6 : decode cX4_pass 6 = .ok (.iload 5, 2) := by decide +kernel
theorem dX4_pass_8 : decode cX4_pass 8 = .ok (.aload_n 0, 1) := by decide +kernel
theorem dX4_pass_9 : decode cX4_pass 9 = .ok (.getfield 29, 3) := by decide +kernel
theorem dX4_pass_12 : decode cX4_pass 12 = .ok (.if_icmp .ge 24, 3) := by decide +kernel
theorem dX4_pass_15 : decode cX4_pass 15 = .ok (.iload 4, 2) := by decide +kernel
theorem dX4_pass_17 : decode cX4_pass 17 = .ok (.aload_n 0, 1) := by decide +kernel
theorem dX4_pass_18 : decode cX4_pass 18 = .ok (.aload_n 1, 1) := by decide +kernel
theorem dX4_pass_19 : decode cX4_pass 19 = .ok (.bipush 20, 2) := by decide +kernel
theorem dX4_pass_21 : decode cX4_pass 21 = .ok (.iload 5, 2) := by decide +kernel
theorem dX4_pass_23 : decode cX4_pass 23 = .ok (.imul, 1) := by decide +kernel
theorem dX4_pass_24 : decode cX4_pass 24 = .ok (.invokevirtual 58, 3) := by decide +kernel
theorem dX4_pass_27 : decode cX4_pass 27 = .ok (.iadd, 1) := by decide +kernel
theorem dX4_pass_28 : decode cX4_pass 28 = .ok (.istore 4, 2) := by decide +kernel
theorem dX4_pass_30 : decode cX4_pass 30 = .ok (.iinc 5 1, 3) := by decide +kernel
theorem dX4_pass_33 : decode cX4_pass 33 = .ok (.goto (-27), 3) := by decide +kernel
theorem dX4_pass_36 : decode cX4_pass 36 = .ok (.iload_n 3, 1) := by decide +kernel
theorem dX4_pass_37 : decode cX4_pass 37 = .ok (.bipush 48, 2) := by decide +kernel
theorem dX4_pass_39 : decode cX4_pass 39 = .ok (.irem, 1) := by decide +kernel
theorem dX4_pass_40 : decode cX4_pass 40 = .ok (.bipush 47, 2) := by decide +kernel
theorem dX4_pass_42 : decode cX4_pass 42 = .ok (.if_icmp .ne 110, 3) := by decide +kernel
theorem dX4_pass_45 : decode cX4_pass 45 = .ok (.iconst 0, 1) := by decide +kernel
theorem dX4_pass_46 : decode cX4_pass 46 = .ok (.istore 5, 2) := by decide +kernel
theorem dX4_pass_48 : decode cX4_pass 48 = .ok (.iload 5, 2) := by decide +kernel
theorem dX4_pass_50 : decode cX4_pass 50 = .ok (.iconst 4, 1) := by decide +kernel
theorem dX4_pass_51 : decode cX4_pass 51 = .ok (.if_icmp .ge 17, 3) := by decide +kernel
theorem dX4_pass_54 : decode cX4_pass 54 = .ok (.aload_n 0, 1) := by decide +kernel
theorem dX4_pass_55 : decode cX4_pass 55 = .ok (.getfield 26, 3) := by decide +kernel
theorem dX4_pass_58 : decode cX4_pass 58 = .ok (.iload 5, 2) := by decide +kernel
theorem dX4_pass_60 : decode cX4_pass 60 = .ok (.iconst 0, 1) := by decide +kernel
theorem dX4_pass_61 : decode cX4_pass 61 = .ok (.iastore, 1) := by decide +kernel
theorem dX4_pass_62 : decode cX4_pass 62 = .ok (.iinc 5 1, 3) := by decide +kernel
theorem dX4_pass_65 : decode cX4_pass 65 = .ok (.goto (-17), 3) := by decide +kernel
theorem dX4_pass_68 : decode cX4_pass 68 = .ok (.iconst 0, 1) := by decide +kernel
theorem dX4_pass_69 : decode cX4_pass 69 = .ok (.istore 5, 2) := by decide +kernel
theorem dX4_pass_71 : decode cX4_pass 71 = .ok (.iload 5, 2) := by decide +kernel
theorem dX4_pass_73 : decode cX4_pass 73 = .ok (.aload_n 0, 1) := by decide +kernel
theorem dX4_pass_74 : decode cX4_pass 74 = .ok (.getfield 29, 3) := by decide +kernel
theorem dX4_pass_77 : decode cX4_pass 77 = .ok (.if_icmp .ge 24, 3) := by decide +kernel
theorem dX4_pass_80 : decode cX4_pass 80 = .ok (.aload_n 0, 1) := by decide +kernel
theorem dX4_pass_81 : decode cX4_pass 81 = .ok (.aload_n 1, 1) := by decide +kernel
theorem dX4_pass_82 : decode cX4_pass 82 = .ok (.aload_n 2, 1) := by decide +kernel
theorem dX4_pass_83 : decode cX4_pass 83 = .ok (.bipush 20, 2) := by decide +kernel
theorem dX4_pass_85 : decode cX4_pass 85 = .ok (.iload 5, 2) := by decide +kernel
theorem dX4_pass_87 : decode cX4_pass 87 = .ok (.imul, 1) := by decide +kernel
theorem dX4_pass_88 : decode cX4_pass 88 = .ok (.aload_n 0, 1) := by decide +kernel
theorem dX4_pass_89 : decode cX4_pass 89 = .ok (.getfield 26, 3) := by decide +kernel
theorem dX4_pass_92 : decode cX4_pass 92 = .ok (.invokevirtual 62, 3) := by decide +kernel
theorem dX4_pass_95 : decode cX4_pass 95 = .ok (.iinc 5 1, 3) := by decide +kernel
theorem dX4_pass_98 : decode cX4_pass 98 = .ok (.goto (-27), 3) := by decide +kernel
theorem dX4_pass_101 : decode cX4_pass 101 = .ok (.iconst 0, 1) := by decide +kernel
theorem dX4_pass_102 : decode cX4_pass 102 = .ok (.istore 5, 2) := by decide +kernel
theorem dX4_pass_104 : decode cX4_pass 104 = .ok (.iload 5, 2) := by decide +kernel
theorem dX4_pass_106 : decode cX4_pass 106 = .ok (.iconst 4, 1) := by decide +kernel
theorem dX4_pass_107 : decode cX4_pass 107 = .ok (.if_icmp .ge 45, 3) := by decide +kernel
theorem dX4_pass_110 : decode cX4_pass 110 = .ok (.aload_n 2, 1) := by decide +kernel
theorem dX4_pass_111 : decode cX4_pass 111 = .ok (.iconst 5, 1) := by decide +kernel
theorem dX4_pass_112 : decode cX4_pass 112 = .ok (.iload 5, 2) := by decide +kernel
theorem dX4_pass_114 : decode cX4_pass 114 = .ok (.imul, 1) := by decide +kernel
theorem dX4_pass_115 : decode cX4_pass 115 = .ok (.iconst 1, 1) := by decide +kernel
theorem dX4_pass_116 : decode cX4_pass 116 = .ok (.iadd, 1) := by decide +kernel
theorem dX4_pass_117 : decode cX4_pass 117 = .ok (.dup2, 1) := by decide +kernel
theorem dX4_pass_118 : decode cX4_pass 118 = .ok (.iaload, 1) := by decide +kernel
theorem dX4_pass_119 : decode cX4_pass 119 = .ok (.aload_n 0, 1) := by decide +kernel
theorem dX4_pass_120 : decode cX4_pass 120 = .ok (.getfield 26, 3) := by decide +kernel
theorem dX4_pass_123 : decode cX4_pass 123 = .ok (.iload 5, 2) := by decide +kernel
theorem dX4_pass_125 : decode cX4_pass 125 = .ok (.iaload, 1) := by decide +kernel
theorem dX4_pass_126 : decode cX4_pass 126 = .ok (.iadd, 1) := by decide +kernel
theorem dX4_pass_127 : decode cX4_pass 127 = .ok (.iastore, 1) := by decide +kernel
theorem dX4_pass_128 : decode cX4_pass 128 = .ok (.aload_n 2, 1) := by decide +kernel
theorem dX4_pass_129 : decode cX4_pass 129 = .ok (.iconst 5, 1) := by decide +kernel
theorem dX4_pass_130 : decode cX4_pass 130 = .ok (.iload 5, 2) := by decide +kernel
theorem dX4_pass_132 : decode cX4_pass 132 = .ok (.imul, 1) := by decide +kernel
theorem dX4_pass_133 : decode cX4_pass 133 = .ok (.iconst 4, 1) := by decide +kernel
theorem dX4_pass_134 : decode cX4_pass 134 = .ok (.iadd, 1) := by decide +kernel
theorem dX4_pass_135 : decode cX4_pass 135 = .ok (.dup2, 1) := by decide +kernel
theorem dX4_pass_136 : decode cX4_pass 136 = .ok (.iaload, 1) := by decide +kernel
theorem dX4_pass_137 : decode cX4_pass 137 = .ok (.aload_n 0, 1) := by decide +kernel
theorem dX4_pass_138 : decode cX4_pass 138 = .ok (.getfield 26, 3) := by decide +kernel
theorem dX4_pass_141 : decode cX4_pass 141 = .ok (.iload 5, 2) := by decide +kernel
theorem dX4_pass_143 : decode cX4_pass 143 = .ok (.iaload, 1) := by decide +kernel
theorem dX4_pass_144 : decode cX4_pass 144 = .ok (.iadd, 1) := by decide +kernel
theorem dX4_pass_145 : decode cX4_pass 145 = .ok (.iastore, 1) := by decide +kernel
theorem dX4_pass_146 : decode cX4_pass 146 = .ok (.iinc 5 1, 3) := by decide +kernel
theorem dX4_pass_149 : decode cX4_pass 149 = .ok (.goto (-45), 3) := by decide +kernel
theorem dX4_pass_152 : decode cX4_pass 152 = .ok (.iload 4, 2) := by decide +kernel
theorem dX4_pass_154 : decode cX4_pass 154 = .ok (.ireturn, 1) := by decide +kernel
theorem dX4_lookAhead_0 : decode cX4_lookAhead 0 = .ok (.aload_n 0, 1) := by decide +kernel
theorem dX4_lookAhead_1 : decode cX4_lookAhead 1 = .ok (.getfield 13, 3) := by decide +kernel
theorem dX4_lookAhead_4 : decode cX4_lookAhead 4 = .ok (.iconst 0, 1) := by decide +kernel
theorem dX4_lookAhead_5 : decode cX4_lookAhead 5 = .ok (.aload_n 0, 1) := by decide +kernel
theorem dX4_lookAhead_6 : decode cX4_lookAhead 6 = .ok (.getfield 20, 3) := by decide +kernel
theorem dX4_lookAhead_9 : decode cX4_lookAhead 9 = .ok (.iconst 0, 1) := by decide +kernel
theorem dX4_lookAhead_10 : decode cX4_lookAhead 10 = .ok (.aload_n 0, 1) := by decide +kernel
theorem dX4_lookAhead_11 : decode cX4_lookAhead 11 = .ok (.getfield 13, 3) := by decide +kernel
theorem dX4_lookAhead_14 : decode cX4_lookAhead 14 = .ok (.arraylength, 1) := by decide +kernel
theorem dX4_lookAhead_15 : decode cX4_lookAhead 15 = .ok (.invokestatic 66, 3) := by decide +kernel
theorem dX4_lookAhead_18 : decode cX4_lookAhead 18 = .ok (.aload_n 0, 1) := by decide +kernel
theorem dX4_lookAhead_19 : decode cX4_lookAhead 19 = .ok (.getfield 17, 3) := by decide +kernel
theorem dX4_lookAhead_22 : decode cX4_lookAhead 22 = .ok (.iconst 0, 1) := by decide +kernel
theorem dX4_lookAhead_23 : decode cX4_lookAhead 23 = .ok (.aload_n 0, 1) := by decide +kernel
theorem dX4_lookAhead_24 : decode cX4_lookAhead 24 = .ok (.getfield 23, 3) := by decide +kernel
theorem dX4_lookAhead_27 : decode cX4_lookAhead 27 = .ok (.iconst 0, 1) := by decide +kernel
theorem dX4_lookAhead_28 : decode cX4_lookAhead 28 = .ok (.aload_n 0, 1) := by decide +kernel
theorem dX4_lookAhead_29 : decode cX4_lookAhead 29 = .ok (.getfield 17, 3) := by decide +kernel
theorem dX4_lookAhead_32 : decode cX4_lookAhead 32 = .ok (.arraylength, 1) := by decide +kernel
theorem dX4_lookAhead_33 : decode cX4_lookAhead 33 = .ok (.invokestatic 66, 3) := by decide +kernel
theorem dX4_lookAhead_36 : decode cX4_lookAhead 36 = .ok (.return_, 1) := by decide +kernel
theorem dX4_passAhead_0 : decode cX4_passAhead 0 = .ok (.iconst 0, 1) := by decide +kernel
theorem dX4_passAhead_1 : decode cX4_passAhead 1 = .ok (.istore_n 2, 1) := by decide +kernel
theorem dX4_passAhead_2 : decode cX4_passAhead 2 = .ok (.iload_n 2, 1) := by decide +kernel
theorem dX4_passAhead_3 : decode cX4_passAhead 3 = .ok (.iload_n 1, 1) := by decide +kernel
theorem dX4_passAhead_4 : decode cX4_passAhead 4 = .ok (.if_icmp .ge 28, 3) := by decide +kernel
theorem dX4_passAhead_7 : decode cX4_passAhead 7 = .ok (.aload_n 0, 1) := by decide +kernel
theorem dX4_passAhead_8 : decode cX4_passAhead 8 = .ok (.aload_n 0, 1) := by decide +kernel
theorem dX4_passAhead_9 : decode cX4_passAhead 9 = .ok (.getfield 20, 3) := by decide +kernel
theorem dX4_passAhead_12 : decode cX4_passAhead 12 = .ok (.aload_n 0, 1) := by decide +kernel
theorem dX4_passAhead_13 : decode cX4_passAhead 13 = .ok (.getfield 23, 3) := by decide +kernel
theorem dX4_passAhead_16 : decode cX4_passAhead 16 = .ok (.aload_n 0, 1) := by decide +kernel
theorem dX4_passAhead_17 : decode cX4_passAhead 17 = .ok (.getfield 72, 3) := by decide +kernel
theorem dX4_passAhead_20 : decode cX4_passAhead 20 = .ok (.iload_n 2, 1) := by decide +kernel
theorem dX4_passAhead_21 : decode cX4_passAhead 21 = .ok (.iadd, 1) := by decide +kernel
theorem dX4_passAhead_22 : decode cX4_passAhead 22 = .ok (.invokevirtual 75, 3) := by decide +kernel
theorem dX4_passAhead_25 : decode cX4_passAhead 25 = .ok (.pop, 1) := by decide +kernel
theorem dX4_passAhead_26 : decode cX4_passAhead 26 = .ok (.iinc 2 1, 3) := by decide +kernel
theorem dX4_passAhead_29 : decode cX4_passAhead 29 = .ok (.goto (-27), 3) := by decide +kernel
theorem dX4_passAhead_32 : decode cX4_passAhead 32 = .ok (.return_, 1) := by decide +kernel
theorem dX4_nailer_0 : decode cX4_nailer 0 = .ok (.aload_n 0, 1) := by decide +kernel
theorem dX4_nailer_1 : decode cX4_nailer 1 = .ok (.iconst 0, 1) := by decide +kernel
theorem dX4_nailer_2 : decode cX4_nailer 2 = .ok (.putfield 1, 3) := by decide +kernel
theorem dX4_nailer_5 : decode cX4_nailer 5 = .ok (.iload_n 2, 1) := by decide +kernel
theorem dX4_nailer_6 : decode cX4_nailer 6 = .ok (.invokestatic 79, 3) := by decide +kernel
theorem dX4_nailer_9 : decode cX4_nailer 9 = .ok (.ifCond .eq 10, 3) := by decide +kernel
theorem dX4_nailer_12 : decode cX4_nailer 12 = .ok (.iload_n 3, 1) := by decide +kernel
theorem dX4_nailer_13 : decode cX4_nailer 13 = .ok (.invokestatic 79, 3) := by decide +kernel
theorem dX4_nailer_16 : decode cX4_nailer 16 = .ok (.ifCond .ne 9, 3) := by decide +kernel
theorem dX4_nailer_19 : decode cX4_nailer 19 = .ok (.aload_n 0, 1) := by decide +kernel
theorem dX4_nailer_20 : decode cX4_nailer 20 = .ok (.iconst 1, 1) := by decide +kernel
theorem dX4_nailer_21 : decode cX4_nailer 21 = .ok (.invokevirtual 83, 3) := by decide +kernel
theorem dX4_nailer_24 : decode cX4_nailer 24 = .ok (.ireturn, 1) := by decide +kernel
theorem dX4_nailer_25 : decode cX4_nailer 25 = .ok (.iload_n 1, 1) := by decide +kernel
theorem dX4_nailer_26 : decode cX4_nailer 26 = .ok (.iconst 1, 1) := by decide +kernel
theorem dX4_nailer_27 : decode cX4_nailer 27 = .ok (.bipush 9, 2) := by decide +kernel
theorem dX4_nailer_29 : decode cX4_nailer 29 = .ok (.invokestatic 32, 3) := by decide +kernel
theorem dX4_nailer_32 : decode cX4_nailer 32 = .ok (.ifCond .ne 9, 3) := by decide +kernel
theorem dX4_nailer_35 : decode cX4_nailer 35 = .ok (.aload_n 0, 1) := by decide +kernel
theorem dX4_nailer_36 : decode cX4_nailer 36 = .ok (.iconst 2, 1) := by decide +kernel
theorem dX4_nailer_37 : decode cX4_nailer 37 = .ok (.invokevirtual 83, 3) := by decide +kernel
theorem dX4_nailer_40 : decode cX4_nailer 40 = .ok (.ireturn, 1) := by decide +kernel
theorem dX4_nailer_41 : decode cX4_nailer 41 = .ok (.aload_n 0, 1) := by decide +kernel
theorem dX4_nailer_42 : decode cX4_nailer 42 = .ok (.getfield 29, 3) := by decide +kernel
theorem dX4_nailer_45 : decode cX4_nailer 45 = .ok (.bipush 12, 2) := by decide +kernel
theorem dX4_nailer_47 : decode cX4_nailer 47 = .ok (.if_icmp .ne 9, 3) := by decide +kernel
theorem dX4_nailer_50 : decode cX4_nailer 50 = .ok (.aload_n 0, 1) := by decide +kernel
theorem dX4_nailer_51 : decode cX4_nailer 51 = .ok (.iconst 3, 1) := by decide +kernel
theorem dX4_nailer_52 : decode cX4_nailer 52 = .ok (.invokevirtual 83, 3) := by decide +kernel
theorem dX4_nailer_55 : decode cX4_nailer 55 = .ok (.ireturn, 1) := by decide +kernel
theorem dX4_nailer_56 : decode cX4_nailer 56 = .ok (.bipush 20, 2) := by decide +kernel
theorem dX4_nailer_58 : decode cX4_nailer 58 = .ok (.aload_n 0, 1) := by decide +kernel
theorem dX4_nailer_59 : decode cX4_nailer 59 = .ok (.getfield 29, 3) := by decide +kernel
theorem dX4_nailer_62 : decode cX4_nailer 62 = .ok (.imul, 1) := by decide +kernel
theorem dX4_nailer_63 : decode cX4_nailer 63 = .ok (.istore 4, 2) := by decide +kernel
theorem dX4_nailer_65 : decode cX4_nailer 65 = .ok (.aload_n 0, 1) := by decide +kernel
theorem dX4_nailer_66 : decode cX4_nailer 66 = .ok (.getfield 13, 3) := by decide +kernel
theorem dX4_nailer_69 : decode cX4_nailer 69 = .ok (.iload 4, 2) := by decide +kernel
theorem dX4_nailer_71 : decode cX4_nailer 71 = .ok (.iconst 0, 1) := by decide +kernel
theorem dX4_nailer_72 : decode cX4_nailer 72 = .ok (.iadd, 1) := by decide +kernel
theorem dX4_nailer_73 : decode cX4_nailer 73 = .ok (.iload_n 1, 1) := by decide +kernel
theorem dX4_nailer_74 : decode cX4_nailer 74 = .ok (.iastore, 1) := by decide +kernel
theorem dX4_nailer_75 : decode cX4_nailer 75 = .ok (.aload_n 0, 1) := by decide +kernel
theorem dX4_nailer_76 : decode cX4_nailer 76 = .ok (.getfield 13, 3) := by decide +kernel
theorem dX4_nailer_79 : decode cX4_nailer 79 = .ok (.iload 4, 2) := by decide +kernel
theorem dX4_nailer_81 : decode cX4_nailer 81 = .ok (.iconst 1, 1) := by decide +kernel
theorem dX4_nailer_82 : decode cX4_nailer 82 = .ok (.iadd, 1) := by decide +kernel
theorem dX4_nailer_83 : decode cX4_nailer 83 = .ok (.iload_n 2, 1) := by decide +kernel
theorem dX4_nailer_84 : decode cX4_nailer 84 = .ok (.iastore, 1) := by decide +kernel
theorem dX4_nailer_85 : decode cX4_nailer 85 = .ok (.aload_n 0, 1) := by decide +kernel
theorem dX4_nailer_86 : decode cX4_nailer 86 = .ok (.getfield 13, 3) := by decide +kernel
theorem dX4_nailer_89 : decode cX4_nailer 89 = .ok (.iload 4, 2) := by decide +kernel
theorem dX4_nailer_91 : decode cX4_nailer 91 = .ok (.iconst 2, 1) := by decide +kernel
theorem dX4_nailer_92 : decode cX4_nailer 92 = .ok (.iadd, 1) := by decide +kernel
theorem dX4_nailer_93 : decode cX4_nailer 93 = .ok (.iload_n 3, 1) := by decide +kernel
theorem dX4_nailer_94 : decode cX4_nailer 94 = .ok (.iastore, 1) := by decide +kernel
theorem dX4_nailer_95 : decode cX4_nailer 95 = .ok (.aload_n 0, 1) := by decide +kernel
theorem dX4_nailer_96 : decode cX4_nailer 96 = .ok (.getfield 13, 3) := by decide +kernel
theorem dX4_nailer_99 : decode cX4_nailer 99 = .ok (.iload 4, 2) := by decide +kernel
theorem dX4_nailer_101 : decode cX4_nailer 101 = .ok (.bipush 6, 2) := by decide +kernel
theorem dX4_nailer_103 : decode cX4_nailer 103 = .ok (.iadd, 1) := by decide +kernel
theorem dX4_nailer_104 : decode cX4_nailer 104 = .ok (.bipush 10, 2) := by decide +kernel
theorem dX4_nailer_106 : decode cX4_nailer 106 = .ok (.iastore, 1) := by decide +kernel
theorem dX4_nailer_107 : decode cX4_nailer 107 = .ok (.aload_n 0, 1) := by decide +kernel
theorem dX4_nailer_108 : decode cX4_nailer 108 = .ok (.getfield 13, 3) := by decide +kernel
theorem dX4_nailer_111 : decode cX4_nailer 111 = .ok (.iload 4, 2) := by decide +kernel
theorem dX4_nailer_113 : decode cX4_nailer 113 = .ok (.bipush 7, 2) := by decide +kernel
theorem dX4_nailer_115 : decode cX4_nailer 115 = .ok (.iadd, 1) := by decide +kernel
theorem dX4_nailer_116 : decode cX4_nailer 116 = .ok (.iconst 5, 1) := by decide +kernel
theorem dX4_nailer_117 : decode cX4_nailer 117 = .ok (.iastore, 1) := by decide +kernel
theorem dX4_nailer_118 : decode cX4_nailer 118 = .ok (.aload_n 0, 1) := by decide +kernel
theorem dX4_nailer_119 : decode cX4_nailer 119 = .ok (.dup, 1) := by decide +kernel
theorem dX4_nailer_120 : decode cX4_nailer 120 = .ok (.getfield 29, 3) := by decide +kernel
theorem dX4_nailer_123 : decode cX4_nailer 123 = .ok (.iconst 1, 1) := by decide +kernel
theorem dX4_nailer_124 : decode cX4_nailer 124 = .ok (.iadd, 1) := by decide +kernel
theorem dX4_nailer_125 : decode cX4_nailer 125 = .ok (.putfield 29, 3) := by decide +kernel
theorem dX4_nailer_128 : decode cX4_nailer 128 = .ok (.aload_n 0, 1) := by decide +kernel
theorem dX4_nailer_129 : decode cX4_nailer 129 = .ok (.getfield 29, 3) := by decide +kernel
theorem dX4_nailer_132 : decode cX4_nailer 132 = .ok (.iconst 1, 1) := by decide +kernel
theorem dX4_nailer_133 : decode cX4_nailer 133 = .ok (.isub, 1) := by decide +kernel
theorem dX4_nailer_134 : decode cX4_nailer 134 = .ok (.ireturn, 1) := by decide +kernel
theorem dX4_lend_0 : decode cX4_lend 0 = .ok (.aload_n 0, 1) := by decide +kernel
theorem dX4_lend_1 : decode cX4_lend 1 = .ok (.iconst 0, 1) := by decide +kernel
theorem dX4_lend_2 : decode cX4_lend 2 = .ok (.putfield 1, 3) := by decide +kernel
theorem dX4_lend_5 : decode cX4_lend 5 = .ok (.aload_n 0, 1) := by decide +kernel
theorem dX4_lend_6 : decode cX4_lend 6 = .ok (.iload_n 1, 1) := by decide +kernel
theorem dX4_lend_7 : decode cX4_lend 7 = .ok (.invokevirtual 87, 3) := by decide +kernel
theorem dX4_lend_10 : decode cX4_lend 10 = .ok (.ifCond .ne 9, 3) := by decide +kernel
theorem dX4_lend_13 : decode cX4_lend 13 = .ok (.aload_n 0, 1) := by decide +kernel
theorem dX4_lend_14 : decode cX4_lend 14 = .ok (.iconst 1, 1) := by decide +kernel
theorem dX4_lend_15 : decode cX4_lend 15 = .ok (.invokevirtual 83, 3) := by decide +kernel
theorem dX4_lend_18 : decode cX4_lend 18 = .ok (.ireturn, 1) := by decide +kernel
theorem dX4_lend_19 : decode cX4_lend 19 = .ok (.iload_n 2, 1) := by decide +kernel
theorem dX4_lend_20 : decode cX4_lend 20 = .ok (.iconst 1, 1) := by decide +kernel
theorem dX4_lend_21 : decode cX4_lend 21 = .ok (.bipush 20, 2) := by decide +kernel
theorem dX4_lend_23 : decode cX4_lend 23 = .ok (.invokestatic 32, 3) := by decide +kernel
theorem dX4_lend_26 : decode cX4_lend 26 = .ok (.ifCond .ne 9, 3) := by decide +kernel
theorem dX4_lend_29 : decode cX4_lend 29 = .ok (.aload_n 0, 1) := by decide +kernel
theorem dX4_lend_30 : decode cX4_lend 30 = .ok (.iconst 2, 1) := by decide +kernel
theorem dX4_lend_31 : decode cX4_lend 31 = .ok (.invokevirtual 83, 3) := by decide +kernel
theorem dX4_lend_34 : decode cX4_lend 34 = .ok (.ireturn, 1) := by decide +kernel
theorem dX4_lend_35 : decode cX4_lend 35 = .ok (.bipush 20, 2) := by decide +kernel
theorem dX4_lend_37 : decode cX4_lend 37 = .ok (.iload_n 1, 1) := by decide +kernel
theorem dX4_lend_38 : decode cX4_lend 38 = .ok (.imul, 1) := by decide +kernel
theorem dX4_lend_39 : decode cX4_lend 39 = .ok (.istore_n 3, 1) := by decide +kernel
theorem dX4_lend_40 : decode cX4_lend 40 = .ok (.aload_n 0, 1) := by decide +kernel
theorem dX4_lend_41 : decode cX4_lend 41 = .ok (.getfield 13, 3) := by decide +kernel
theorem dX4_lend_44 : decode cX4_lend 44 = .ok (.iload_n 3, 1) := by decide +kernel
theorem dX4_lend_45 : decode cX4_lend 45 = .ok (.bipush 8, 2) := by decide +kernel
theorem dX4_lend_47 : decode cX4_lend 47 = .ok (.iadd, 1) := by decide +kernel
theorem dX4_lend_48 : decode cX4_lend 48 = .ok (.iaload, 1) := by decide +kernel
theorem dX4_lend_49 : decode cX4_lend 49 = .ok (.iconst 3, 1) := by decide +kernel
theorem dX4_lend_50 : decode cX4_lend 50 = .ok (.iload_n 2, 1) := by decide +kernel
theorem dX4_lend_51 : decode cX4_lend 51 = .ok (.imul, 1) := by decide +kernel
theorem dX4_lend_52 : decode cX4_lend 52 = .ok (.iadd, 1) := by decide +kernel
theorem dX4_lend_53 : decode cX4_lend 53 = .ok (.bipush 90, 2) := by decide +kernel
theorem dX4_lend_55 : decode cX4_lend 55 = .ok (.if_icmp .le 9, 3) := by decide +kernel
theorem dX4_lend_58 : decode cX4_lend 58 = .ok (.aload_n 0, 1) := by decide +kernel
theorem dX4_lend_59 : decode cX4_lend 59 = .ok (.iconst 3, 1) := by decide +kernel
theorem dX4_lend_60 : decode cX4_lend 60 = .ok (.invokevirtual 83, 3) := by decide +kernel
theorem dX4_lend_63 : decode cX4_lend 63 = .ok (.ireturn, 1) := by decide +kernel
theorem dX4_lend_64 : decode cX4_lend 64 = .ok (.aload_n 0, 1) := by decide +kernel
theorem dX4_lend_65 : decode cX4_lend 65 = .ok (.getfield 13, 3) := by decide +kernel
theorem dX4_lend_68 : decode cX4_lend 68 = .ok (.iload_n 3, 1) := by decide +kernel
theorem dX4_lend_69 : decode cX4_lend 69 = .ok (.bipush 8, 2) := by decide +kernel
theorem dX4_lend_71 : decode cX4_lend 71 = .ok (.iadd, 1) := by decide +kernel
theorem dX4_lend_72 : decode cX4_lend 72 = .ok (.dup2, 1) := by decide +kernel
theorem dX4_lend_73 : decode cX4_lend 73 = .ok (.iaload, 1) := by decide +kernel
theorem dX4_lend_74 : decode cX4_lend 74 = .ok (.iconst 3, 1) := by decide +kernel
theorem dX4_lend_75 : decode cX4_lend 75 = .ok (.iload_n 2, 1) := by decide +kernel
theorem dX4_lend_76 : decode cX4_lend 76 = .ok (.imul, 1) := by decide +kernel
theorem dX4_lend_77 : decode cX4_lend 77 = .ok (.iadd, 1) := by decide +kernel
theorem dX4_lend_78 : decode cX4_lend 78 = .ok (.iastore, 1) := by decide +kernel
theorem dX4_lend_79 : decode cX4_lend 79 = .ok (.aload_n 0, 1) := by decide +kernel
theorem dX4_lend_80 : decode cX4_lend 80 = .ok (.getfield 13, 3) := by decide +kernel
theorem dX4_lend_83 : decode cX4_lend 83 = .ok (.iload_n 3, 1) := by decide +kernel
theorem dX4_lend_84 : decode cX4_lend 84 = .ok (.iconst 3, 1) := by decide +kernel
theorem dX4_lend_85 : decode cX4_lend 85 = .ok (.iadd, 1) := by decide +kernel
theorem dX4_lend_86 : decode cX4_lend 86 = .ok (.dup2, 1) := by decide +kernel
theorem dX4_lend_87 : decode cX4_lend 87 = .ok (.iaload, 1) := by decide +kernel
theorem dX4_lend_88 : decode cX4_lend 88 = .ok (.iload_n 2, 1) := by decide +kernel
theorem dX4_lend_89 : decode cX4_lend 89 = .ok (.iadd, 1) := by decide +kernel
theorem dX4_lend_90 : decode cX4_lend 90 = .ok (.iastore, 1) := by decide +kernel
theorem dX4_lend_91 : decode cX4_lend 91 = .ok (.aload_n 0, 1) := by decide +kernel
theorem dX4_lend_92 : decode cX4_lend 92 = .ok (.getfield 13, 3) := by decide +kernel
theorem dX4_lend_95 : decode cX4_lend 95 = .ok (.iload_n 3, 1) := by decide +kernel
theorem dX4_lend_96 : decode cX4_lend 96 = .ok (.bipush 8, 2) := by decide +kernel
theorem dX4_lend_98 : decode cX4_lend 98 = .ok (.iadd, 1) := by decide +kernel
theorem dX4_lend_99 : decode cX4_lend 99 = .ok (.iaload, 1) := by decide +kernel
theorem dX4_lend_100 : decode cX4_lend 100 = .ok (.ireturn, 1) := by decide +kernel
theorem dX4_coal_0 : decode cX4_coal 0 = .ok (.aload_n 0, 1) := by decide +kernel
theorem dX4_coal_1 : decode cX4_coal 1 = .ok (.iconst 0, 1) := by decide +kernel
theorem dX4_coal_2 : decode cX4_coal 2 = .ok (.putfield 1, 3) := by decide +kernel
theorem dX4_coal_5 : decode cX4_coal 5 = .ok (.aload_n 0, 1) := by decide +kernel
theorem dX4_coal_6 : decode cX4_coal 6 = .ok (.iload_n 1, 1) := by decide +kernel
theorem dX4_coal_7 : decode cX4_coal 7 = .ok (.invokevirtual 87, 3) := by decide +kernel
theorem dX4_coal_10 : decode cX4_coal 10 = .ok (.ifCond .ne 9, 3) := by decide +kernel
theorem dX4_coal_13 : decode cX4_coal 13 = .ok (.aload_n 0, 1) := by decide +kernel
theorem dX4_coal_14 : decode cX4_coal 14 = .ok (.iconst 1, 1) := by decide +kernel
theorem dX4_coal_15 : decode cX4_coal 15 = .ok (.invokevirtual 83, 3) := by decide +kernel
theorem dX4_coal_18 : decode cX4_coal 18 = .ok (.ireturn, 1) := by decide +kernel
theorem dX4_coal_19 : decode cX4_coal 19 = .ok (.iload_n 2, 1) := by decide +kernel
theorem dX4_coal_20 : decode cX4_coal 20 = .ok (.iconst 1, 1) := by decide +kernel
theorem dX4_coal_21 : decode cX4_coal 21 = .ok (.bipush 99, 2) := by decide +kernel
theorem dX4_coal_23 : decode cX4_coal 23 = .ok (.invokestatic 32, 3) := by decide +kernel
theorem dX4_coal_26 : decode cX4_coal 26 = .ok (.ifCond .ne 9, 3) := by decide +kernel
theorem dX4_coal_29 : decode cX4_coal 29 = .ok (.aload_n 0, 1) := by decide +kernel
theorem dX4_coal_30 : decode cX4_coal 30 = .ok (.iconst 2, 1) := by decide +kernel
theorem dX4_coal_31 : decode cX4_coal 31 = .ok (.invokevirtual 83, 3) := by decide +kernel
theorem dX4_coal_34 : decode cX4_coal 34 = .ok (.ireturn, 1) := by decide +kernel
theorem dX4_coal_35 : decode cX4_coal 35 = .ok (.bipush 20, 2) := by decide +kernel
theorem dX4_coal_37 : decode cX4_coal 37 = .ok (.iload_n 1, 1) := by decide +kernel
theorem dX4_coal_38 : decode cX4_coal 38 = .ok (.imul, 1) := by decide +kernel
theorem dX4_coal_39 : decode cX4_coal 39 = .ok (.istore_n 3, 1) := by decide +kernel
theorem dX4_coal_40 : decode cX4_coal 40 = .ok (.iload_n 2, 1) := by decide +kernel
theorem dX4_coal_41 : decode cX4_coal 41 = .ok (.iconst 3, 1) := by decide +kernel
theorem dX4_coal_42 : decode cX4_coal 42 = .ok (.iadd, 1) := by decide +kernel
theorem dX4_coal_43 : decode cX4_coal 43 = .ok (.iconst 4, 1) := by decide +kernel
theorem dX4_coal_44 : decode cX4_coal 44 = .ok (.idiv, 1) := by decide +kernel
theorem dX4_coal_45 : decode cX4_coal 45 = .ok (.istore 4, 2) := by decide +kernel
theorem dX4_coal_47 : decode cX4_coal 47 = .ok (.aload_n 0, 1) := by decide +kernel
theorem dX4_coal_48 : decode cX4_coal 48 = .ok (.getfield 13, 3) := by decide +kernel
theorem dX4_coal_51 : decode cX4_coal 51 = .ok (.iload_n 3, 1) := by decide +kernel
theorem dX4_coal_52 : decode cX4_coal 52 = .ok (.bipush 7, 2) := by decide +kernel
theorem dX4_coal_54 : decode cX4_coal 54 = .ok (.iadd, 1) := by decide +kernel
theorem dX4_coal_55 : decode cX4_coal 55 = .ok (.iaload, 1) := by decide +kernel
theorem dX4_coal_56 : decode cX4_coal 56 = .ok (.iload 4, 2) := by decide +kernel
theorem dX4_coal_58 : decode cX4_coal 58 = .ok (.if_icmp .lt 19, 3) := by decide +kernel
theorem dX4_coal_61 : decode cX4_coal 61 = .ok (.aload_n 0, 1) := by decide +kernel
theorem dX4_coal_62 : decode cX4_coal 62 = .ok (.getfield 13, 3) := by decide +kernel
theorem dX4_coal_65 : decode cX4_coal 65 = .ok (.iload_n 3, 1) := by decide +kernel
theorem dX4_coal_66 : decode cX4_coal 66 = .ok (.bipush 6, 2) := by decide +kernel
theorem dX4_coal_68 : decode cX4_coal 68 = .ok (.iadd, 1) := by decide +kernel
theorem dX4_coal_69 : decode cX4_coal 69 = .ok (.iaload, 1) := by decide +kernel
theorem dX4_coal_70 : decode cX4_coal 70 = .ok (.iload_n 2, 1) := by decide +kernel
theorem dX4_coal_71 : decode cX4_coal 71 = .ok (.iadd, 1) := by decide +kernel
theorem dX4_coal_72 : decode cX4_coal 72 = .ok (.bipush 99, 2) := by decide +kernel
theorem dX4_coal_74 : decode cX4_coal 74 = .ok (.if_icmp .le 9, 3) := by decide +kernel
theorem dX4_coal_77 : decode cX4_coal 77 = .ok (.aload_n 0, 1) := by decide +kernel
theorem dX4_coal_78 : decode cX4_coal 78 = .ok (.iconst 3, 1) := by decide +kernel
theorem dX4_coal_79 : decode cX4_coal 79 = .ok (.invokevirtual 83, 3) := by decide +kernel
theorem dX4_coal_82 : decode cX4_coal 82 = .ok (.ireturn, 1) := by decide +kernel
theorem dX4_coal_83 : decode cX4_coal 83 = .ok (.aload_n 0, 1) := by decide +kernel
theorem dX4_coal_84 : decode cX4_coal 84 = .ok (.getfield 13, 3) := by decide +kernel
theorem dX4_coal_87 : decode cX4_coal 87 = .ok (.iload_n 3, 1) := by decide +kernel
theorem dX4_coal_88 : decode cX4_coal 88 = .ok (.bipush 7, 2) := by decide +kernel
theorem dX4_coal_90 : decode cX4_coal 90 = .ok (.iadd, 1) := by decide +kernel
theorem dX4_coal_91 : decode cX4_coal 91 = .ok (.dup2, 1) := by decide +kernel
theorem dX4_coal_92 : decode cX4_coal 92 = .ok (.iaload, 1) := by decide +kernel
theorem dX4_coal_93 : decode cX4_coal 93 = .ok (.iload 4, 2) := by decide +kernel
theorem dX4_coal_95 : decode cX4_coal 95 = .ok (.isub, 1) := by decide +kernel
theorem dX4_coal_96 : decode cX4_coal 96 = .ok (.iastore, 1) := by decide +kernel
theorem dX4_coal_97 : decode cX4_coal 97 = .ok (.aload_n 0, 1) := by decide +kernel
theorem dX4_coal_98 : decode cX4_coal 98 = .ok (.getfield 13, 3) := by decide +kernel
theorem dX4_coal_101 : decode cX4_coal 101 = .ok (.iload_n 3, 1) := by decide +kernel
theorem dX4_coal_102 : decode cX4_coal 102 = .ok (.bipush 6, 2) := by decide +kernel
theorem dX4_coal_104 : decode cX4_coal 104 = .ok (.iadd, 1) := by decide +kernel
theorem dX4_coal_105 : decode cX4_coal 105 = .ok (.dup2, 1) := by decide +kernel
theorem dX4_coal_106 : decode cX4_coal 106 = .ok (.iaload, 1) := by decide +kernel
theorem dX4_coal_107 : decode cX4_coal 107 = .ok (.iload_n 2, 1) := by decide +kernel
theorem dX4_coal_108 : decode cX4_coal 108 = .ok (.iadd, 1) := by decide +kernel
theorem dX4_coal_109 : decode cX4_coal 109 = .ok (.iastore, 1) := by decide +kernel
theorem dX4_coal_110 : decode cX4_coal 110 = .ok (.aload_n 0, 1) := by decide +kernel
theorem dX4_coal_111 : decode cX4_coal 111 = .ok (.getfield 13, 3) := by decide +kernel
theorem dX4_coal_114 : decode cX4_coal 114 = .ok (.iload_n 3, 1) := by decide +kernel
theorem dX4_coal_115 : decode cX4_coal 115 = .ok (.bipush 6, 2) := by decide +kernel
theorem dX4_coal_117 : decode cX4_coal 117 = .ok (.iadd, 1) := by decide +kernel
theorem dX4_coal_118 : decode cX4_coal 118 = .ok (.iaload, 1) := by decide +kernel
theorem dX4_coal_119 : decode cX4_coal 119 = .ok (.ireturn, 1) := by decide +kernel
theorem dX4_put_0 : decode cX4_put 0 = .ok (.aload_n 0, 1) := by decide +kernel
theorem dX4_put_1 : decode cX4_put 1 = .ok (.getfield 13, 3) := by decide +kernel
theorem dX4_put_4 : decode cX4_put 4 = .ok (.iload_n 1, 1) := by decide +kernel
theorem dX4_put_5 : decode cX4_put 5 = .ok (.iaload, 1) := by decide +kernel
theorem dX4_put_6 : decode cX4_put 6 = .ok (.istore_n 3, 1) := by decide +kernel
theorem dX4_put_7 : decode cX4_put 7 = .ok (.aload_n 0, 1) := by decide +kernel
theorem dX4_put_8 : decode cX4_put 8 = .ok (.getfield 13, 3) := by decide +kernel
theorem dX4_put_11 : decode cX4_put 11 = .ok (.iload_n 1, 1) := by decide +kernel
theorem dX4_put_12 : decode cX4_put 12 = .ok (.iload_n 2, 1) := by decide +kernel
theorem dX4_put_13 : decode cX4_put 13 = .ok (.iastore, 1) := by decide +kernel
theorem dX4_put_14 : decode cX4_put 14 = .ok (.iload_n 3, 1) := by decide +kernel
theorem dX4_put_15 : decode cX4_put 15 = .ok (.ireturn, 1) := by decide +kernel
theorem dX4_make_0 : decode cX4_make 0 = .ok (.aload_n 0, 1) := by decide +kernel
theorem dX4_make_1 : decode cX4_make 1 = .ok (.iconst 0, 1) := by decide +kernel
theorem dX4_make_2 : decode cX4_make 2 = .ok (.putfield 1, 3) := by decide +kernel
theorem dX4_make_5 : decode cX4_make 5 = .ok (.aload_n 0, 1) := by decide +kernel
theorem dX4_make_6 : decode cX4_make 6 = .ok (.iload_n 1, 1) := by decide +kernel
theorem dX4_make_7 : decode cX4_make 7 = .ok (.invokevirtual 87, 3) := by decide +kernel
theorem dX4_make_10 : decode cX4_make 10 = .ok (.ifCond .eq 24, 3) := by decide +kernel
theorem dX4_make_13 : decode cX4_make 13 = .ok (.iload_n 2, 1) := by decide +kernel
theorem dX4_make_14 : decode cX4_make 14 = .ok (.invokestatic 79, 3) := by decide +kernel
theorem dX4_make_17 : decode cX4_make 17 = .ok (.ifCond .eq 17, 3) := by decide +kernel
theorem dX4_make_20 : decode cX4_make 20 = .ok (.aload_n 0, 1) := by decide +kernel
theorem dX4_make_21 : decode cX4_make 21 = .ok (.bipush 20, 2) := by decide +kernel
theorem dX4_make_23 : decode cX4_make 23 = .ok (.iload_n 1, 1) := by decide +kernel
theorem dX4_make_24 : decode cX4_make 24 = .ok (.imul, 1) := by decide +kernel
theorem dX4_make_25 : decode cX4_make 25 = .ok (.iconst 1, 1) := by decide +kernel
theorem dX4_make_26 : decode cX4_make 26 = .ok (.iadd, 1) := by decide +kernel
theorem dX4_make_27 : decode cX4_make 27 = .ok (.iload_n 2, 1) := by decide +kernel
theorem dX4_make_28 : decode cX4_make 28 = .ok (.invokevirtual 90, 3) := by decide +kernel
theorem dX4_make_31 : decode cX4_make 31 = .ok (.goto 8, 3) := by decide +kernel
theorem dX4_make_34 : decode cX4_make 34 = .ok (.aload_n 0, 1) := by decide +kernel
end
section
/-! what the instructions are, by program -/
theorem dX4_make_35 : decode cX4_make 35 = .ok (.iconst 1, 1) := by decide +kernel
theorem dX4_make_36 : decode cX4_make 36 = .ok (.invokevirtual 83, 3) := by decide +kernel
theorem dX4_make_39 : decode cX4_make 39 = .ok (.ireturn, 1) := by decide +kernel
theorem dX4_change_0 : decode cX4_change 0 = .ok (.aload_n 0, 1) := by decide +kernel
theorem dX4_change_1 : decode cX4_change 1 = .ok (.iconst 0, 1) := by decide +kernel
theorem dX4_change_2 : decode cX4_change 2 = .ok (.putfield 1, 3) := by decide +kernel
theorem dX4_change_5 : decode cX4_change 5 = .ok (.aload_n 0, 1) := by decide +kernel
theorem dX4_change_6 : decode cX4_change 6 = .ok (.iload_n 1, 1) := by decide +kernel
theorem dX4_change_7 : decode cX4_change 7 = .ok (.invokevirtual 87, 3) := by decide +kernel
theorem dX4_change_10 : decode cX4_change 10 = .ok (.ifCond .eq 10, 3) := by decide +kernel
theorem dX4_change_13 : decode cX4_change 13 = .ok (.iload_n 2, 1) := by decide +kernel
theorem dX4_change_14 : decode cX4_change 14 = .ok (.invokestatic 79, 3) := by decide +kernel
theorem dX4_change_17 : decode cX4_change 17 = .ok (.ifCond .ne 9, 3) := by decide +kernel
theorem dX4_change_20 : decode cX4_change 20 = .ok (.aload_n 0, 1) := by decide +kernel
theorem dX4_change_21 : decode cX4_change 21 = .ok (.iconst 1, 1) := by decide +kernel
theorem dX4_change_22 : decode cX4_change 22 = .ok (.invokevirtual 83, 3) := by decide +kernel
theorem dX4_change_25 : decode cX4_change 25 = .ok (.ireturn, 1) := by decide +kernel
theorem dX4_change_26 : decode cX4_change 26 = .ok (.aload_n 0, 1) := by decide +kernel
theorem dX4_change_27 : decode cX4_change 27 = .ok (.getfield 13, 3) := by decide +kernel
theorem dX4_change_30 : decode cX4_change 30 = .ok (.bipush 20, 2) := by decide +kernel
theorem dX4_change_32 : decode cX4_change 32 = .ok (.iload_n 1, 1) := by decide +kernel
theorem dX4_change_33 : decode cX4_change 33 = .ok (.imul, 1) := by decide +kernel
theorem dX4_change_34 : decode cX4_change 34 = .ok (.bipush 8, 2) := by decide +kernel
theorem dX4_change_36 : decode cX4_change 36 = .ok (.iadd, 1) := by decide +kernel
theorem dX4_change_37 : decode cX4_change 37 = .ok (.iaload, 1) := by decide +kernel
theorem dX4_change_38 : decode cX4_change 38 = .ok (.ifCond .le 11, 3) := by decide +kernel
theorem dX4_change_41 : decode cX4_change 41 = .ok (.aload_n 0, 1) := by decide +kernel
theorem dX4_change_42 : decode cX4_change 42 = .ok (.iconst 2, 1) := by decide +kernel
theorem dX4_change_43 : decode cX4_change 43 = .ok (.invokevirtual 83, 3) := by decide +kernel
theorem dX4_change_46 : decode cX4_change 46 = .ok (.goto 14, 3) := by decide +kernel
theorem dX4_change_49 : decode cX4_change 49 = .ok (.aload_n 0, 1) := by decide +kernel
theorem dX4_change_50 : decode cX4_change 50 = .ok (.bipush 20, 2) := by decide +kernel
theorem dX4_change_52 : decode cX4_change 52 = .ok (.iload_n 1, 1) := by decide +kernel
theorem dX4_change_53 : decode cX4_change 53 = .ok (.imul, 1) := by decide +kernel
theorem dX4_change_54 : decode cX4_change 54 = .ok (.iconst 2, 1) := by decide +kernel
theorem dX4_change_55 : decode cX4_change 55 = .ok (.iadd, 1) := by decide +kernel
theorem dX4_change_56 : decode cX4_change 56 = .ok (.iload_n 2, 1) := by decide +kernel
theorem dX4_change_57 : decode cX4_change 57 = .ok (.invokevirtual 90, 3) := by decide +kernel
theorem dX4_change_60 : decode cX4_change 60 = .ok (.ireturn, 1) := by decide +kernel
theorem dX4_told_0 : decode cX4_told 0 = .ok (.aload_n 0, 1) := by decide +kernel
theorem dX4_told_1 : decode cX4_told 1 = .ok (.iconst 0, 1) := by decide +kernel
theorem dX4_told_2 : decode cX4_told 2 = .ok (.putfield 1, 3) := by decide +kernel
theorem dX4_told_5 : decode cX4_told 5 = .ok (.aload_n 0, 1) := by decide +kernel
theorem dX4_told_6 : decode cX4_told 6 = .ok (.iload_n 1, 1) := by decide +kernel
theorem dX4_told_7 : decode cX4_told 7 = .ok (.invokevirtual 87, 3) := by decide +kernel
theorem dX4_told_10 : decode cX4_told 10 = .ok (.ifCond .eq 27, 3) := by decide +kernel
theorem dX4_told_13 : decode cX4_told 13 = .ok (.iload_n 2, 1) := by decide +kernel
theorem dX4_told_14 : decode cX4_told 14 = .ok (.iconst 0, 1) := by decide +kernel
theorem dX4_told_15 : decode cX4_told 15 = .ok (.bipush 11, 2) := by decide +kernel
theorem dX4_told_17 : decode cX4_told 17 = .ok (.invokestatic 32, 3) := by decide +kernel
theorem dX4_told_20 : decode cX4_told 20 = .ok (.ifCond .eq 17, 3) := by decide +kernel
theorem dX4_told_23 : decode cX4_told 23 = .ok (.aload_n 0, 1) := by decide +kernel
theorem dX4_told_24 : decode cX4_told 24 = .ok (.getfield 13, 3) := by decide +kernel
theorem dX4_told_27 : decode cX4_told 27 = .ok (.bipush 20, 2) := by decide +kernel
theorem dX4_told_29 : decode cX4_told 29 = .ok (.iload_n 1, 1) := by decide +kernel
theorem dX4_told_30 : decode cX4_told 30 = .ok (.imul, 1) := by decide +kernel
theorem dX4_told_31 : decode cX4_told 31 = .ok (.iload_n 2, 1) := by decide +kernel
theorem dX4_told_32 : decode cX4_told 32 = .ok (.iadd, 1) := by decide +kernel
theorem dX4_told_33 : decode cX4_told 33 = .ok (.iaload, 1) := by decide +kernel
theorem dX4_told_34 : decode cX4_told 34 = .ok (.goto 8, 3) := by decide +kernel
theorem dX4_told_37 : decode cX4_told 37 = .ok (.aload_n 0, 1) := by decide +kernel
theorem dX4_told_38 : decode cX4_told 38 = .ok (.iconst 1, 1) := by decide +kernel
theorem dX4_told_39 : decode cX4_told 39 = .ok (.invokevirtual 83, 3) := by decide +kernel
theorem dX4_told_42 : decode cX4_told 42 = .ok (.ireturn, 1) := by decide +kernel
theorem dX4_nails_0 : decode cX4_nails 0 = .ok (.aload_n 0, 1) := by decide +kernel
theorem dX4_nails_1 : decode cX4_nails 1 = .ok (.iconst 0, 1) := by decide +kernel
theorem dX4_nails_2 : decode cX4_nails 2 = .ok (.putfield 1, 3) := by decide +kernel
theorem dX4_nails_5 : decode cX4_nails 5 = .ok (.aload_n 0, 1) := by decide +kernel
theorem dX4_nails_6 : decode cX4_nails 6 = .ok (.iload_n 1, 1) := by decide +kernel
theorem dX4_nails_7 : decode cX4_nails 7 = .ok (.invokevirtual 87, 3) := by decide +kernel
theorem dX4_nails_10 : decode cX4_nails 10 = .ok (.ifCond .eq 40, 3) := by decide +kernel
theorem dX4_nails_13 : decode cX4_nails 13 = .ok (.iload_n 2, 1) := by decide +kernel
theorem dX4_nails_14 : decode cX4_nails 14 = .ok (.invokestatic 79, 3) := by decide +kernel
theorem dX4_nails_17 : decode cX4_nails 17 = .ok (.ifCond .eq 33, 3) := by decide +kernel
theorem dX4_nails_20 : decode cX4_nails 20 = .ok (.iload_n 3, 1) := by decide +kernel
theorem dX4_nails_21 : decode cX4_nails 21 = .ok (.iconst 0, 1) := by decide +kernel
theorem dX4_nails_22 : decode cX4_nails 22 = .ok (.iconst 1, 1) := by decide +kernel
theorem dX4_nails_23 : decode cX4_nails 23 = .ok (.invokestatic 32, 3) := by decide +kernel
theorem dX4_nails_26 : decode cX4_nails 26 = .ok (.ifCond .eq 24, 3) := by decide +kernel
theorem dX4_nails_29 : decode cX4_nails 29 = .ok (.aload_n 0, 1) := by decide +kernel
theorem dX4_nails_30 : decode cX4_nails 30 = .ok (.getfield 13, 3) := by decide +kernel
theorem dX4_nails_33 : decode cX4_nails 33 = .ok (.bipush 20, 2) := by decide +kernel
theorem dX4_nails_35 : decode cX4_nails 35 = .ok (.iload_n 1, 1) := by decide +kernel
theorem dX4_nails_36 : decode cX4_nails 36 = .ok (.imul, 1) := by decide +kernel
theorem dX4_nails_37 : decode cX4_nails 37 = .ok (.bipush 12, 2) := by decide +kernel
theorem dX4_nails_39 : decode cX4_nails 39 = .ok (.iadd, 1) := by decide +kernel
theorem dX4_nails_40 : decode cX4_nails 40 = .ok (.iconst 4, 1) := by decide +kernel
theorem dX4_nails_41 : decode cX4_nails 41 = .ok (.iload_n 3, 1) := by decide +kernel
theorem dX4_nails_42 : decode cX4_nails 42 = .ok (.imul, 1) := by decide +kernel
theorem dX4_nails_43 : decode cX4_nails 43 = .ok (.iadd, 1) := by decide +kernel
theorem dX4_nails_44 : decode cX4_nails 44 = .ok (.iload_n 2, 1) := by decide +kernel
theorem dX4_nails_45 : decode cX4_nails 45 = .ok (.iadd, 1) := by decide +kernel
theorem dX4_nails_46 : decode cX4_nails 46 = .ok (.iaload, 1) := by decide +kernel
theorem dX4_nails_47 : decode cX4_nails 47 = .ok (.goto 8, 3) := by decide +kernel
theorem dX4_nails_50 : decode cX4_nails 50 = .ok (.aload_n 0, 1) := by decide +kernel
theorem dX4_nails_51 : decode cX4_nails 51 = .ok (.iconst 1, 1) := by decide +kernel
theorem dX4_nails_52 : decode cX4_nails 52 = .ok (.invokevirtual 83, 3) := by decide +kernel
theorem dX4_nails_55 : decode cX4_nails 55 = .ok (.ireturn, 1) := by decide +kernel
theorem dX4_keep_0 : decode cX4_keep 0 = .ok (.aload_n 0, 1) := by decide +kernel
theorem dX4_keep_1 : decode cX4_keep 1 = .ok (.iconst 0, 1) := by decide +kernel
theorem dX4_keep_2 : decode cX4_keep 2 = .ok (.putfield 1, 3) := by decide +kernel
theorem dX4_keep_5 : decode cX4_keep 5 = .ok (.iload_n 1, 1) := by decide +kernel
theorem dX4_keep_6 : decode cX4_keep 6 = .ok (.invokestatic 79, 3) := by decide +kernel
theorem dX4_keep_9 : decode cX4_keep 9 = .ok (.ifCond .ne 9, 3) := by decide +kernel
theorem dX4_keep_12 : decode cX4_keep 12 = .ok (.aload_n 0, 1) := by decide +kernel
theorem dX4_keep_13 : decode cX4_keep 13 = .ok (.iconst 1, 1) := by decide +kernel
theorem dX4_keep_14 : decode cX4_keep 14 = .ok (.invokevirtual 83, 3) := by decide +kernel
theorem dX4_keep_17 : decode cX4_keep 17 = .ok (.ireturn, 1) := by decide +kernel
theorem dX4_keep_18 : decode cX4_keep 18 = .ok (.iload_n 2, 1) := by decide +kernel
theorem dX4_keep_19 : decode cX4_keep 19 = .ok (.iconst 0, 1) := by decide +kernel
theorem dX4_keep_20 : decode cX4_keep 20 = .ok (.bipush 60, 2) := by decide +kernel
theorem dX4_keep_22 : decode cX4_keep 22 = .ok (.invokestatic 32, 3) := by decide +kernel
theorem dX4_keep_25 : decode cX4_keep 25 = .ok (.ifCond .ne 9, 3) := by decide +kernel
theorem dX4_keep_28 : decode cX4_keep 28 = .ok (.aload_n 0, 1) := by decide +kernel
theorem dX4_keep_29 : decode cX4_keep 29 = .ok (.iconst 2, 1) := by decide +kernel
theorem dX4_keep_30 : decode cX4_keep 30 = .ok (.invokevirtual 83, 3) := by decide +kernel
theorem dX4_keep_33 : decode cX4_keep 33 = .ok (.ireturn, 1) := by decide +kernel
theorem dX4_keep_34 : decode cX4_keep 34 = .ok (.aload_n 0, 1) := by decide +kernel
theorem dX4_keep_35 : decode cX4_keep 35 = .ok (.getfield 17, 3) := by decide +kernel
theorem dX4_keep_38 : decode cX4_keep 38 = .ok (.iconst 5, 1) := by decide +kernel
theorem dX4_keep_39 : decode cX4_keep 39 = .ok (.iload_n 1, 1) := by decide +kernel
theorem dX4_keep_40 : decode cX4_keep 40 = .ok (.imul, 1) := by decide +kernel
theorem dX4_keep_41 : decode cX4_keep 41 = .ok (.iconst 0, 1) := by decide +kernel
theorem dX4_keep_42 : decode cX4_keep 42 = .ok (.iadd, 1) := by decide +kernel
theorem dX4_keep_43 : decode cX4_keep 43 = .ok (.iaload, 1) := by decide +kernel
theorem dX4_keep_44 : decode cX4_keep 44 = .ok (.istore_n 3, 1) := by decide +kernel
theorem dX4_keep_45 : decode cX4_keep 45 = .ok (.aload_n 0, 1) := by decide +kernel
theorem dX4_keep_46 : decode cX4_keep 46 = .ok (.getfield 17, 3) := by decide +kernel
theorem dX4_keep_49 : decode cX4_keep 49 = .ok (.iconst 5, 1) := by decide +kernel
theorem dX4_keep_50 : decode cX4_keep 50 = .ok (.iload_n 1, 1) := by decide +kernel
theorem dX4_keep_51 : decode cX4_keep 51 = .ok (.imul, 1) := by decide +kernel
theorem dX4_keep_52 : decode cX4_keep 52 = .ok (.iconst 0, 1) := by decide +kernel
theorem dX4_keep_53 : decode cX4_keep 53 = .ok (.iadd, 1) := by decide +kernel
theorem dX4_keep_54 : decode cX4_keep 54 = .ok (.iload_n 2, 1) := by decide +kernel
theorem dX4_keep_55 : decode cX4_keep 55 = .ok (.iastore, 1) := by decide +kernel
theorem dX4_keep_56 : decode cX4_keep 56 = .ok (.iload_n 3, 1) := by decide +kernel
theorem dX4_keep_57 : decode cX4_keep 57 = .ok (.ireturn, 1) := by decide +kernel
theorem dX4_nailersOf_0 : decode cX4_nailersOf 0 = .ok (.iconst 0, 1) := by decide +kernel
theorem dX4_nailersOf_1 : decode cX4_nailersOf 1 = .ok (.istore_n 2, 1) := by decide +kernel
theorem dX4_nailersOf_2 : decode cX4_nailersOf 2 = .ok (.iconst 0, 1) := by decide +kernel
theorem dX4_nailersOf_3 : decode cX4_nailersOf 3 = .ok (.istore_n 3, 1) := by decide +kernel
theorem dX4_nailersOf_4 : decode cX4_nailersOf 4 = .ok (.iload_n 3, 1) := by decide +kernel
theorem dX4_nailersOf_5 : decode cX4_nailersOf 5 = .ok (.aload_n 0, 1) := by decide +kernel
theorem dX4_nailersOf_6 : decode cX4_nailersOf 6 = .ok (.getfield 29, 3) := by decide +kernel
theorem dX4_nailersOf_9 : decode cX4_nailersOf 9 = .ok (.if_icmp .ge 32, 3) := by decide +kernel
theorem dX4_nailersOf_12 : decode cX4_nailersOf 12 = .ok (.iload_n 2, 1) := by decide +kernel
theorem dX4_nailersOf_13 : decode cX4_nailersOf 13 = .ok (.aload_n 0, 1) := by decide +kernel
theorem dX4_nailersOf_14 : decode cX4_nailersOf 14 = .ok (.getfield 13, 3) := by decide +kernel
theorem dX4_nailersOf_17 : decode cX4_nailersOf 17 = .ok (.bipush 20, 2) := by decide +kernel
theorem dX4_nailersOf_19 : decode cX4_nailersOf 19 = .ok (.iload_n 3, 1) := by decide +kernel
theorem dX4_nailersOf_20 : decode cX4_nailersOf 20 = .ok (.imul, 1) := by decide +kernel
theorem dX4_nailersOf_21 : decode cX4_nailersOf 21 = .ok (.iconst 2, 1) := by decide +kernel
theorem dX4_nailersOf_22 : decode cX4_nailersOf 22 = .ok (.iadd, 1) := by decide +kernel
theorem dX4_nailersOf_23 : decode cX4_nailersOf 23 = .ok (.iaload, 1) := by decide +kernel
theorem dX4_nailersOf_24 : decode cX4_nailersOf 24 = .ok (.iload_n 1, 1) := by decide +kernel
theorem dX4_nailersOf_25 : decode cX4_nailersOf 25 = .ok (.if_icmp .ne 7, 3) := by decide +kernel
theorem dX4_nailersOf_28 : decode cX4_nailersOf 28 = .ok (.iconst 1, 1) := by decide +kernel
theorem dX4_nailersOf_29 : decode cX4_nailersOf 29 = .ok (.goto 4, 3) := by decide +kernel
theorem dX4_nailersOf_32 : decode cX4_nailersOf 32 = .ok (.iconst 0, 1) := by decide +kernel
theorem dX4_nailersOf_33 : decode cX4_nailersOf 33 = .ok (.iadd, 1) := by decide +kernel
theorem dX4_nailersOf_34 : decode cX4_nailersOf 34 = .ok (.istore_n 2, 1) := by decide +kernel
theorem dX4_nailersOf_35 : decode cX4_nailersOf 35 = .ok (.iinc 3 1, 3) := by decide +kernel
theorem dX4_nailersOf_38 : decode cX4_nailersOf 38 = .ok (.goto (-34), 3) := by decide +kernel
theorem dX4_nailersOf_41 : decode cX4_nailersOf 41 = .ok (.iload_n 2, 1) := by decide +kernel
theorem dX4_nailersOf_42 : decode cX4_nailersOf 42 = .ok (.ireturn, 1) := by decide +kernel
theorem dX4_foggerTold_0 : decode cX4_foggerTold 0 = .ok (.iconst 5, 1) := by decide +kernel
theorem dX4_foggerTold_1 : decode cX4_foggerTold 1 = .ok (.iload_n 1, 1) := by decide +kernel
theorem dX4_foggerTold_2 : decode cX4_foggerTold 2 = .ok (.imul, 1) := by decide +kernel
theorem dX4_foggerTold_3 : decode cX4_foggerTold 3 = .ok (.istore_n 3, 1) := by decide +kernel
theorem dX4_foggerTold_4 : decode cX4_foggerTold 4 = .ok (.bipush 6, 2) := by decide +kernel
theorem dX4_foggerTold_6 : decode cX4_foggerTold 6 = .ok (.newarray .int, 2) := by decide +kernel
theorem dX4_foggerTold_8 : decode cX4_foggerTold 8 = .ok (.dup, 1) := by decide +kernel
theorem dX4_foggerTold_9 : decode cX4_foggerTold 9 = .ok (.iconst 0, 1) := by decide +kernel
theorem dX4_foggerTold_10 : decode cX4_foggerTold 10 = .ok (.aload_n 0, 1) := by decide +kernel
theorem dX4_foggerTold_11 : decode cX4_foggerTold 11 = .ok (.getfield 17, 3) := by decide +kernel
theorem dX4_foggerTold_14 : decode cX4_foggerTold 14 = .ok (.iload_n 3, 1) := by decide +kernel
theorem dX4_foggerTold_15 : decode cX4_foggerTold 15 = .ok (.iconst 0, 1) := by decide +kernel
theorem dX4_foggerTold_16 : decode cX4_foggerTold 16 = .ok (.iadd, 1) := by decide +kernel
theorem dX4_foggerTold_17 : decode cX4_foggerTold 17 = .ok (.iaload, 1) := by decide +kernel
theorem dX4_foggerTold_18 : decode cX4_foggerTold 18 = .ok (.iastore, 1) := by decide +kernel
theorem dX4_foggerTold_19 : decode cX4_foggerTold 19 = .ok (.dup, 1) := by decide +kernel
theorem dX4_foggerTold_20 : decode cX4_foggerTold 20 = .ok (.iconst 1, 1) := by decide +kernel
theorem dX4_foggerTold_21 : decode cX4_foggerTold 21 = .ok (.aload_n 0, 1) := by decide +kernel
theorem dX4_foggerTold_22 : decode cX4_foggerTold 22 = .ok (.getfield 17, 3) := by decide +kernel
theorem dX4_foggerTold_25 : decode cX4_foggerTold 25 = .ok (.iload_n 3, 1) := by decide +kernel
theorem dX4_foggerTold_26 : decode cX4_foggerTold 26 = .ok (.iconst 1, 1) := by decide +kernel
theorem dX4_foggerTold_27 : decode cX4_foggerTold 27 = .ok (.iadd, 1) := by decide +kernel
theorem dX4_foggerTold_28 : decode cX4_foggerTold 28 = .ok (.iaload, 1) := by decide +kernel
theorem dX4_foggerTold_29 : decode cX4_foggerTold 29 = .ok (.iastore, 1) := by decide +kernel
theorem dX4_foggerTold_30 : decode cX4_foggerTold 30 = .ok (.dup, 1) := by decide +kernel
theorem dX4_foggerTold_31 : decode cX4_foggerTold 31 = .ok (.iconst 2, 1) := by decide +kernel
theorem dX4_foggerTold_32 : decode cX4_foggerTold 32 = .ok (.aload_n 0, 1) := by decide +kernel
theorem dX4_foggerTold_33 : decode cX4_foggerTold 33 = .ok (.iload_n 1, 1) := by decide +kernel
theorem dX4_foggerTold_34 : decode cX4_foggerTold 34 = .ok (.invokevirtual 93, 3) := by decide +kernel
theorem dX4_foggerTold_37 : decode cX4_foggerTold 37 = .ok (.iastore, 1) := by decide +kernel
theorem dX4_foggerTold_38 : decode cX4_foggerTold 38 = .ok (.dup, 1) := by decide +kernel
theorem dX4_foggerTold_39 : decode cX4_foggerTold 39 = .ok (.iconst 3, 1) := by decide +kernel
theorem dX4_foggerTold_40 : decode cX4_foggerTold 40 = .ok (.aload_n 0, 1) := by decide +kernel
theorem dX4_foggerTold_41 : decode cX4_foggerTold 41 = .ok (.getfield 17, 3) := by decide +kernel
theorem dX4_foggerTold_44 : decode cX4_foggerTold 44 = .ok (.iload_n 3, 1) := by decide +kernel
theorem dX4_foggerTold_45 : decode cX4_foggerTold 45 = .ok (.iconst 2, 1) := by decide +kernel
theorem dX4_foggerTold_46 : decode cX4_foggerTold 46 = .ok (.iadd, 1) := by decide +kernel
theorem dX4_foggerTold_47 : decode cX4_foggerTold 47 = .ok (.iaload, 1) := by decide +kernel
theorem dX4_foggerTold_48 : decode cX4_foggerTold 48 = .ok (.iastore, 1) := by decide +kernel
theorem dX4_foggerTold_49 : decode cX4_foggerTold 49 = .ok (.dup, 1) := by decide +kernel
theorem dX4_foggerTold_50 : decode cX4_foggerTold 50 = .ok (.iconst 4, 1) := by decide +kernel
theorem dX4_foggerTold_51 : decode cX4_foggerTold 51 = .ok (.aload_n 0, 1) := by decide +kernel
theorem dX4_foggerTold_52 : decode cX4_foggerTold 52 = .ok (.getfield 17, 3) := by decide +kernel
theorem dX4_foggerTold_55 : decode cX4_foggerTold 55 = .ok (.iload_n 3, 1) := by decide +kernel
theorem dX4_foggerTold_56 : decode cX4_foggerTold 56 = .ok (.iconst 3, 1) := by decide +kernel
theorem dX4_foggerTold_57 : decode cX4_foggerTold 57 = .ok (.iadd, 1) := by decide +kernel
theorem dX4_foggerTold_58 : decode cX4_foggerTold 58 = .ok (.iaload, 1) := by decide +kernel
theorem dX4_foggerTold_59 : decode cX4_foggerTold 59 = .ok (.iastore, 1) := by decide +kernel
theorem dX4_foggerTold_60 : decode cX4_foggerTold 60 = .ok (.dup, 1) := by decide +kernel
theorem dX4_foggerTold_61 : decode cX4_foggerTold 61 = .ok (.iconst 5, 1) := by decide +kernel
theorem dX4_foggerTold_62 : decode cX4_foggerTold 62 = .ok (.aload_n 0, 1) := by decide +kernel
theorem dX4_foggerTold_63 : decode cX4_foggerTold 63 = .ok (.getfield 17, 3) := by decide +kernel
theorem dX4_foggerTold_66 : decode cX4_foggerTold 66 = .ok (.iload_n 3, 1) := by decide +kernel
theorem dX4_foggerTold_67 : decode cX4_foggerTold 67 = .ok (.iconst 4, 1) := by decide +kernel
theorem dX4_foggerTold_68 : decode cX4_foggerTold 68 = .ok (.iadd, 1) := by decide +kernel
theorem dX4_foggerTold_69 : decode cX4_foggerTold 69 = .ok (.iaload, 1) := by decide +kernel
theorem dX4_foggerTold_70 : decode cX4_foggerTold 70 = .ok (.aload_n 0, 1) := by decide +kernel
theorem dX4_foggerTold_71 : decode cX4_foggerTold 71 = .ok (.getfield 17, 3) := by decide +kernel
theorem dX4_foggerTold_74 : decode cX4_foggerTold 74 = .ok (.iload_n 3, 1) := by decide +kernel
theorem dX4_foggerTold_75 : decode cX4_foggerTold 75 = .ok (.iconst 3, 1) := by decide +kernel
theorem dX4_foggerTold_76 : decode cX4_foggerTold 76 = .ok (.iadd, 1) := by decide +kernel
theorem dX4_foggerTold_77 : decode cX4_foggerTold 77 = .ok (.iaload, 1) := by decide +kernel
theorem dX4_foggerTold_78 : decode cX4_foggerTold 78 = .ok (.isub, 1) := by decide +kernel
theorem dX4_foggerTold_79 : decode cX4_foggerTold 79 = .ok (.iastore, 1) := by decide +kernel
theorem dX4_foggerTold_80 : decode cX4_foggerTold 80 = .ok (.astore 4, 2) := by decide +kernel
theorem dX4_foggerTold_82 : decode cX4_foggerTold 82 = .ok (.aload 4, 2) := by decide +kernel
theorem dX4_foggerTold_84 : decode cX4_foggerTold 84 = .ok (.iload_n 2, 1) := by decide +kernel
theorem dX4_foggerTold_85 : decode cX4_foggerTold 85 = .ok (.iaload, 1) := by decide +kernel
theorem dX4_foggerTold_86 : decode cX4_foggerTold 86 = .ok (.ireturn, 1) := by decide +kernel
theorem dX4_fogger_0 : decode cX4_fogger 0 = .ok (.aload_n 0, 1) := by decide +kernel
theorem dX4_fogger_1 : decode cX4_fogger 1 = .ok (.iconst 0, 1) := by decide +kernel
theorem dX4_fogger_2 : decode cX4_fogger 2 = .ok (.putfield 1, 3) := by decide +kernel
theorem dX4_fogger_5 : decode cX4_fogger 5 = .ok (.iload_n 1, 1) := by decide +kernel
theorem dX4_fogger_6 : decode cX4_fogger 6 = .ok (.invokestatic 79, 3) := by decide +kernel
theorem dX4_fogger_9 : decode cX4_fogger 9 = .ok (.ifCond .eq 21, 3) := by decide +kernel
theorem dX4_fogger_12 : decode cX4_fogger 12 = .ok (.iload_n 2, 1) := by decide +kernel
theorem dX4_fogger_13 : decode cX4_fogger 13 = .ok (.iconst 0, 1) := by decide +kernel
theorem dX4_fogger_14 : decode cX4_fogger 14 = .ok (.iconst 5, 1) := by decide +kernel
theorem dX4_fogger_15 : decode cX4_fogger 15 = .ok (.invokestatic 32, 3) := by decide +kernel
theorem dX4_fogger_18 : decode cX4_fogger 18 = .ok (.ifCond .eq 12, 3) := by decide +kernel
theorem dX4_fogger_21 : decode cX4_fogger 21 = .ok (.aload_n 0, 1) := by decide +kernel
theorem dX4_fogger_22 : decode cX4_fogger 22 = .ok (.iload_n 1, 1) := by decide +kernel
theorem dX4_fogger_23 : decode cX4_fogger 23 = .ok (.iload_n 2, 1) := by decide +kernel
theorem dX4_fogger_24 : decode cX4_fogger 24 = .ok (.invokevirtual 96, 3) := by decide +kernel
theorem dX4_fogger_27 : decode cX4_fogger 27 = .ok (.goto 8, 3) := by decide +kernel
theorem dX4_fogger_30 : decode cX4_fogger 30 = .ok (.aload_n 0, 1) := by decide +kernel
theorem dX4_fogger_31 : decode cX4_fogger 31 = .ok (.iconst 1, 1) := by decide +kernel
theorem dX4_fogger_32 : decode cX4_fogger 32 = .ok (.invokevirtual 83, 3) := by decide +kernel
theorem dX4_fogger_35 : decode cX4_fogger 35 = .ok (.ireturn, 1) := by decide +kernel
theorem dX4_sum_0 : decode cX4_sum 0 = .ok (.iconst 0, 1) := by decide +kernel
theorem dX4_sum_1 : decode cX4_sum 1 = .ok (.istore_n 3, 1) := by decide +kernel
theorem dX4_sum_2 : decode cX4_sum 2 = .ok (.iconst 0, 1) := by decide +kernel
theorem dX4_sum_3 : decode cX4_sum 3 = .ok (.istore 4, 2) := by decide +kernel
theorem dX4_sum_5 : decode cX4_sum 5 = .ok (.iload 4, 2) := by decide +kernel
theorem dX4_sum_7 : decode cX4_sum 7 = .ok (.aload_n 0, 1) := by decide +kernel
theorem dX4_sum_8 : decode cX4_sum 8 = .ok (.getfield 29, 3) := by decide +kernel
theorem dX4_sum_11 : decode cX4_sum 11 = .ok (.if_icmp .ge 21, 3) := by decide +kernel
theorem dX4_sum_14 : decode cX4_sum 14 = .ok (.iload_n 3, 1) := by decide +kernel
theorem dX4_sum_15 : decode cX4_sum 15 = .ok (.aload_n 1, 1) := by decide +kernel
theorem dX4_sum_16 : decode cX4_sum 16 = .ok (.bipush 20, 2) := by decide +kernel
theorem dX4_sum_18 : decode cX4_sum 18 = .ok (.iload 4, 2) := by decide +kernel
theorem dX4_sum_20 : decode cX4_sum 20 = .ok (.imul, 1) := by decide +kernel
theorem dX4_sum_21 : decode cX4_sum 21 = .ok (.iload_n 2, 1) := by decide +kernel
theorem dX4_sum_22 : decode cX4_sum 22 = .ok (.iadd, 1) := by decide +kernel
theorem dX4_sum_23 : decode cX4_sum 23 = .ok (.iaload, 1) := by decide +kernel
theorem dX4_sum_24 : decode cX4_sum 24 = .ok (.iadd, 1) := by decide +kernel
theorem dX4_sum_25 : decode cX4_sum 25 = .ok (.istore_n 3, 1) := by decide +kernel
theorem dX4_sum_26 : decode cX4_sum 26 = .ok (.iinc 4 1, 3) := by decide +kernel
theorem dX4_sum_29 : decode cX4_sum 29 = .ok (.goto (-24), 3) := by decide +kernel
theorem dX4_sum_32 : decode cX4_sum 32 = .ok (.iload_n 3, 1) := by decide +kernel
theorem dX4_sum_33 : decode cX4_sum 33 = .ok (.ireturn, 1) := by decide +kernel
theorem dX4_sumOfFour_0 : decode cX4_sumOfFour 0 = .ok (.aload_n 0, 1) := by decide +kernel
theorem dX4_sumOfFour_1 : decode cX4_sumOfFour 1 = .ok (.aload_n 1, 1) := by decide +kernel
theorem dX4_sumOfFour_2 : decode cX4_sumOfFour 2 = .ok (.iload_n 2, 1) := by decide +kernel
theorem dX4_sumOfFour_3 : decode cX4_sumOfFour 3 = .ok (.invokevirtual 99, 3) := by decide +kernel
theorem dX4_sumOfFour_6 : decode cX4_sumOfFour 6 = .ok (.aload_n 0, 1) := by decide +kernel
theorem dX4_sumOfFour_7 : decode cX4_sumOfFour 7 = .ok (.aload_n 1, 1) := by decide +kernel
theorem dX4_sumOfFour_8 : decode cX4_sumOfFour 8 = .ok (.iload_n 2, 1) := by decide +kernel
theorem dX4_sumOfFour_9 : decode cX4_sumOfFour 9 = .ok (.iconst 1, 1) := by decide +kernel
theorem dX4_sumOfFour_10 : decode cX4_sumOfFour 10 = .ok (.iadd, 1) := by decide +kernel
theorem dX4_sumOfFour_11 : decode cX4_sumOfFour 11 = .ok (.invokevirtual 99, 3) := by decide +kernel
theorem dX4_sumOfFour_14 : decode cX4_sumOfFour 14 = .ok (.iadd, 1) := by decide +kernel
theorem dX4_sumOfFour_15 : decode cX4_sumOfFour 15 = .ok (.aload_n 0, 1) := by decide +kernel
theorem dX4_sumOfFour_16 : decode cX4_sumOfFour 16 = .ok (.aload_n 1, 1) := by decide +kernel
theorem dX4_sumOfFour_17 : decode cX4_sumOfFour 17 = .ok (.iload_n 2, 1) := by decide +kernel
theorem dX4_sumOfFour_18 : decode cX4_sumOfFour 18 = .ok (.iconst 2, 1) := by decide +kernel
theorem dX4_sumOfFour_19 : decode cX4_sumOfFour 19 = .ok (.iadd, 1) := by decide +kernel
theorem dX4_sumOfFour_20 : decode cX4_sumOfFour 20 = .ok (.invokevirtual 99, 3) := by decide +kernel
theorem dX4_sumOfFour_23 : decode cX4_sumOfFour 23 = .ok (.iadd, 1) := by decide +kernel
theorem dX4_sumOfFour_24 : decode cX4_sumOfFour 24 = .ok (.aload_n 0, 1) := by decide +kernel
theorem dX4_sumOfFour_25 : decode cX4_sumOfFour 25 = .ok (.aload_n 1, 1) := by decide +kernel
theorem dX4_sumOfFour_26 : decode cX4_sumOfFour 26 = .ok (.iload_n 2, 1) := by decide +kernel
theorem dX4_sumOfFour_27 : decode cX4_sumOfFour 27 = .ok (.iconst 3, 1) := by decide +kernel
theorem dX4_sumOfFour_28 : decode cX4_sumOfFour 28 = .ok (.iadd, 1) := by decide +kernel
theorem dX4_sumOfFour_29 : decode cX4_sumOfFour 29 = .ok (.invokevirtual 99, 3) := by decide +kernel
theorem dX4_sumOfFour_32 : decode cX4_sumOfFour 32 = .ok (.iadd, 1) := by decide +kernel
theorem dX4_sumOfFour_33 : decode cX4_sumOfFour 33 = .ok (.ireturn, 1) := by decide +kernel
theorem dX4_hot_0 : decode cX4_hot 0 = .ok (.iconst 0, 1) := by decide +kernel
theorem dX4_hot_1 : decode cX4_hot 1 = .ok (.istore_n 1, 1) := by decide +kernel
theorem dX4_hot_2 : decode cX4_hot 2 = .ok (.iconst 0, 1) := by decide +kernel
theorem dX4_hot_3 : decode cX4_hot 3 = .ok (.istore_n 2, 1) := by decide +kernel
theorem dX4_hot_4 : decode cX4_hot 4 = .ok (.iload_n 2, 1) := by decide +kernel
theorem dX4_hot_5 : decode cX4_hot 5 = .ok (.aload_n 0, 1) := by decide +kernel
theorem dX4_hot_6 : decode cX4_hot 6 = .ok (.getfield 29, 3) := by decide +kernel
theorem dX4_hot_9 : decode cX4_hot 9 = .ok (.if_icmp .ge 32, 3) := by decide +kernel
theorem dX4_hot_12 : decode cX4_hot 12 = .ok (.iload_n 1, 1) := by decide +kernel
theorem dX4_hot_13 : decode cX4_hot 13 = .ok (.aload_n 0, 1) := by decide +kernel
theorem dX4_hot_14 : decode cX4_hot 14 = .ok (.getfield 13, 3) := by decide +kernel
theorem dX4_hot_17 : decode cX4_hot 17 = .ok (.bipush 20, 2) := by decide +kernel
theorem dX4_hot_19 : decode cX4_hot 19 = .ok (.iload_n 2, 1) := by decide +kernel
theorem dX4_hot_20 : decode cX4_hot 20 = .ok (.imul, 1) := by decide +kernel
theorem dX4_hot_21 : decode cX4_hot 21 = .ok (.iconst 5, 1) := by decide +kernel
theorem dX4_hot_22 : decode cX4_hot 22 = .ok (.iadd, 1) := by decide +kernel
theorem dX4_hot_23 : decode cX4_hot 23 = .ok (.iaload, 1) := by decide +kernel
theorem dX4_hot_24 : decode cX4_hot 24 = .ok (.iconst 4, 1) := by decide +kernel
theorem dX4_hot_25 : decode cX4_hot 25 = .ok (.if_icmp .lt 7, 3) := by decide +kernel
theorem dX4_hot_28 : decode cX4_hot 28 = .ok (.iconst 1, 1) := by decide +kernel
theorem dX4_hot_29 : decode cX4_hot 29 = .ok (.goto 4, 3) := by decide +kernel
theorem dX4_hot_32 : decode cX4_hot 32 = .ok (.iconst 0, 1) := by decide +kernel
theorem dX4_hot_33 : decode cX4_hot 33 = .ok (.iadd, 1) := by decide +kernel
theorem dX4_hot_34 : decode cX4_hot 34 = .ok (.istore_n 1, 1) := by decide +kernel
theorem dX4_hot_35 : decode cX4_hot 35 = .ok (.iinc 2 1, 3) := by decide +kernel
theorem dX4_hot_38 : decode cX4_hot 38 = .ok (.goto (-34), 3) := by decide +kernel
theorem dX4_hot_41 : decode cX4_hot 41 = .ok (.iload_n 1, 1) := by decide +kernel
theorem dX4_hot_42 : decode cX4_hot 42 = .ok (.ireturn, 1) := by decide +kernel
theorem dX4_bought_0 : decode cX4_bought 0 = .ok (.aload_n 0, 1) := by decide +kernel
theorem dX4_bought_1 : decode cX4_bought 1 = .ok (.iconst 2, 1) := by decide +kernel
theorem dX4_bought_2 : decode cX4_bought 2 = .ok (.iaload, 1) := by decide +kernel
theorem dX4_bought_3 : decode cX4_bought 3 = .ok (.aload_n 0, 1) := by decide +kernel
theorem dX4_bought_4 : decode cX4_bought 4 = .ok (.bipush 7, 2) := by decide +kernel
theorem dX4_bought_6 : decode cX4_bought 6 = .ok (.iaload, 1) := by decide +kernel
theorem dX4_bought_7 : decode cX4_bought 7 = .ok (.iadd, 1) := by decide +kernel
theorem dX4_bought_8 : decode cX4_bought 8 = .ok (.aload_n 0, 1) := by decide +kernel
theorem dX4_bought_9 : decode cX4_bought 9 = .ok (.bipush 12, 2) := by decide +kernel
theorem dX4_bought_11 : decode cX4_bought 11 = .ok (.iaload, 1) := by decide +kernel
theorem dX4_bought_12 : decode cX4_bought 12 = .ok (.iadd, 1) := by decide +kernel
theorem dX4_bought_13 : decode cX4_bought 13 = .ok (.aload_n 0, 1) := by decide +kernel
theorem dX4_bought_14 : decode cX4_bought 14 = .ok (.bipush 17, 2) := by decide +kernel
theorem dX4_bought_16 : decode cX4_bought 16 = .ok (.iaload, 1) := by decide +kernel
theorem dX4_bought_17 : decode cX4_bought 17 = .ok (.iadd, 1) := by decide +kernel
theorem dX4_bought_18 : decode cX4_bought 18 = .ok (.ireturn, 1) := by decide +kernel
theorem dX4_summed_0 : decode cX4_summed 0 = .ok (.iload_n 3, 1) := by decide +kernel
theorem dX4_summed_1 : decode cX4_summed 1 = .ok (.tableswitch 59 3 6 #[31, 38, 46, 54], 31) := by decide +kernel
theorem dX4_summed_32 : decode cX4_summed 32 = .ok (.aload_n 0, 1) := by decide +kernel
theorem dX4_summed_33 : decode cX4_summed 33 = .ok (.aload_n 1, 1) := by decide +kernel
theorem dX4_summed_34 : decode cX4_summed 34 = .ok (.iconst 3, 1) := by decide +kernel
theorem dX4_summed_35 : decode cX4_summed 35 = .ok (.invokevirtual 99, 3) := by decide +kernel
theorem dX4_summed_38 : decode cX4_summed 38 = .ok (.ireturn, 1) := by decide +kernel
theorem dX4_summed_39 : decode cX4_summed 39 = .ok (.aload_n 0, 1) := by decide +kernel
theorem dX4_summed_40 : decode cX4_summed 40 = .ok (.aload_n 1, 1) := by decide +kernel
theorem dX4_summed_41 : decode cX4_summed 41 = .ok (.bipush 12, 2) := by decide +kernel
theorem dX4_summed_43 : decode cX4_summed 43 = .ok (.invokevirtual 102, 3) := by decide +kernel
theorem dX4_summed_46 : decode cX4_summed 46 = .ok (.ireturn, 1) := by decide +kernel
theorem dX4_summed_47 : decode cX4_summed 47 = .ok (.aload_n 0, 1) := by decide +kernel
theorem dX4_summed_48 : decode cX4_summed 48 = .ok (.aload_n 1, 1) := by decide +kernel
theorem dX4_summed_49 : decode cX4_summed 49 = .ok (.bipush 16, 2) := by decide +kernel
theorem dX4_summed_51 : decode cX4_summed 51 = .ok (.invokevirtual 102, 3) := by decide +kernel
theorem dX4_summed_54 : decode cX4_summed 54 = .ok (.ireturn, 1) := by decide +kernel
theorem dX4_summed_55 : decode cX4_summed 55 = .ok (.aload_n 2, 1) := by decide +kernel
theorem dX4_summed_56 : decode cX4_summed 56 = .ok (.invokestatic 105, 3) := by decide +kernel
theorem dX4_summed_59 : decode cX4_summed 59 = .ok (.ireturn, 1) := by decide +kernel
theorem dX4_summed_60 : decode cX4_summed 60 = .ok (.aload_n 0, 1) := by decide +kernel
theorem dX4_summed_61 : decode cX4_summed 61 = .ok (.aload_n 1, 1) := by decide +kernel
theorem dX4_summed_62 : decode cX4_summed 62 = .ok (.iload_n 3, 1) := by decide +kernel
theorem dX4_summed_63 : decode cX4_summed 63 = .ok (.invokevirtual 99, 3) := by decide +kernel
theorem dX4_summed_66 : decode cX4_summed 66 = .ok (.ireturn, 1) := by decide +kernel
theorem dX4_counted_0 : decode cX4_counted 0 = .ok (.iload_n 1, 1) := by decide +kernel
theorem dX4_counted_1 : decode cX4_counted 1 = .ok (.ifCond .ne 10, 3) := by decide +kernel
theorem dX4_counted_4 : decode cX4_counted 4 = .ok (.aload_n 0, 1) := by decide +kernel
theorem dX4_counted_5 : decode cX4_counted 5 = .ok (.getfield 72, 3) := by decide +kernel
theorem dX4_counted_8 : decode cX4_counted 8 = .ok (.goto 40, 3) := by decide +kernel
theorem dX4_counted_11 : decode cX4_counted 11 = .ok (.iload_n 1, 1) := by decide +kernel
theorem dX4_counted_12 : decode cX4_counted 12 = .ok (.iconst 1, 1) := by decide +kernel
theorem dX4_counted_13 : decode cX4_counted 13 = .ok (.if_icmp .ne 10, 3) := by decide +kernel
theorem dX4_counted_16 : decode cX4_counted 16 = .ok (.aload_n 0, 1) := by decide +kernel
theorem dX4_counted_17 : decode cX4_counted 17 = .ok (.getfield 29, 3) := by decide +kernel
theorem dX4_counted_20 : decode cX4_counted 20 = .ok (.goto 28, 3) := by decide +kernel
theorem dX4_counted_23 : decode cX4_counted 23 = .ok (.iload_n 1, 1) := by decide +kernel
theorem dX4_counted_24 : decode cX4_counted 24 = .ok (.iconst 2, 1) := by decide +kernel
theorem dX4_counted_25 : decode cX4_counted 25 = .ok (.if_icmp .ne 10, 3) := by decide +kernel
theorem dX4_counted_28 : decode cX4_counted 28 = .ok (.aload_n 0, 1) := by decide +kernel
theorem dX4_counted_29 : decode cX4_counted 29 = .ok (.invokevirtual 109, 3) := by decide +kernel
theorem dX4_counted_32 : decode cX4_counted 32 = .ok (.goto 16, 3) := by decide +kernel
theorem dX4_counted_35 : decode cX4_counted 35 = .ok (.aload_n 0, 1) := by decide +kernel
theorem dX4_counted_36 : decode cX4_counted 36 = .ok (.aload_n 0, 1) := by decide +kernel
theorem dX4_counted_37 : decode cX4_counted 37 = .ok (.getfield 13, 3) := by decide +kernel
theorem dX4_counted_40 : decode cX4_counted 40 = .ok (.aload_n 0, 1) := by decide +kernel
theorem dX4_counted_41 : decode cX4_counted 41 = .ok (.getfield 17, 3) := by decide +kernel
theorem dX4_counted_44 : decode cX4_counted 44 = .ok (.iload_n 1, 1) := by decide +kernel
theorem dX4_counted_45 : decode cX4_counted 45 = .ok (.invokevirtual 113, 3) := by decide +kernel
theorem dX4_counted_48 : decode cX4_counted 48 = .ok (.ireturn, 1) := by decide +kernel
theorem dX4_count_0 : decode cX4_count 0 = .ok (.aload_n 0, 1) := by decide +kernel
theorem dX4_count_1 : decode cX4_count 1 = .ok (.iconst 0, 1) := by decide +kernel
theorem dX4_count_2 : decode cX4_count 2 = .ok (.putfield 1, 3) := by decide +kernel
theorem dX4_count_5 : decode cX4_count 5 = .ok (.iload_n 1, 1) := by decide +kernel
theorem dX4_count_6 : decode cX4_count 6 = .ok (.iconst 0, 1) := by decide +kernel
theorem dX4_count_7 : decode cX4_count 7 = .ok (.bipush 10, 2) := by decide +kernel
theorem dX4_count_9 : decode cX4_count 9 = .ok (.invokestatic 32, 3) := by decide +kernel
theorem dX4_count_12 : decode cX4_count 12 = .ok (.ifCond .eq 11, 3) := by decide +kernel
theorem dX4_count_15 : decode cX4_count 15 = .ok (.aload_n 0, 1) := by decide +kernel
theorem dX4_count_16 : decode cX4_count 16 = .ok (.iload_n 1, 1) := by decide +kernel
theorem dX4_count_17 : decode cX4_count 17 = .ok (.invokevirtual 116, 3) := by decide +kernel
theorem dX4_count_20 : decode cX4_count 20 = .ok (.goto 8, 3) := by decide +kernel
theorem dX4_count_23 : decode cX4_count 23 = .ok (.aload_n 0, 1) := by decide +kernel
theorem dX4_count_24 : decode cX4_count 24 = .ok (.iconst 1, 1) := by decide +kernel
theorem dX4_count_25 : decode cX4_count 25 = .ok (.invokevirtual 83, 3) := by decide +kernel
theorem dX4_count_28 : decode cX4_count 28 = .ok (.ireturn, 1) := by decide +kernel
theorem dX4_pass__0 : decode cX4_pass_ 0 = .ok (.aload_n 0, 1) := by decide +kernel
theorem dX4_pass__1 : decode cX4_pass_ 1 = .ok (.iconst 0, 1) := by decide +kernel
theorem dX4_pass__2 : decode cX4_pass_ 2 = .ok (.putfield 1, 3) := by decide +kernel
theorem dX4_pass__5 : decode cX4_pass_ 5 = .ok (.iload_n 1, 1) := by decide +kernel
theorem dX4_pass__6 : decode cX4_pass_ 6 = .ok (.iconst 1, 1) := by decide +kernel
theorem dX4_pass__7 : decode cX4_pass_ 7 = .ok (.sipush 240, 3) := by decide +kernel
theorem dX4_pass__10 : decode cX4_pass_ 10 = .ok (.invokestatic 32, 3) := by decide +kernel
theorem dX4_pass__13 : decode cX4_pass_ 13 = .ok (.ifCond .ne 9, 3) := by decide +kernel
theorem dX4_pass__16 : decode cX4_pass_ 16 = .ok (.aload_n 0, 1) := by decide +kernel
theorem dX4_pass__17 : decode cX4_pass_ 17 = .ok (.iconst 1, 1) := by decide +kernel
theorem dX4_pass__18 : decode cX4_pass_ 18 = .ok (.invokevirtual 83, 3) := by decide +kernel
theorem dX4_pass__21 : decode cX4_pass_ 21 = .ok (.ireturn, 1) := by decide +kernel
theorem dX4_pass__22 : decode cX4_pass_ 22 = .ok (.iconst 0, 1) := by decide +kernel
theorem dX4_pass__23 : decode cX4_pass_ 23 = .ok (.istore_n 2, 1) := by decide +kernel
theorem dX4_pass__24 : decode cX4_pass_ 24 = .ok (.iconst 0, 1) := by decide +kernel
theorem dX4_pass__25 : decode cX4_pass_ 25 = .ok (.istore_n 3, 1) := by decide +kernel
theorem dX4_pass__26 : decode cX4_pass_ 26 = .ok (.iload_n 3, 1) := by decide +kernel
theorem dX4_pass__27 : decode cX4_pass_ 27 = .ok (.iload_n 1, 1) := by decide +kernel
theorem dX4_pass__28 : decode cX4_pass_ 28 = .ok (.if_icmp .ge 38, 3) := by decide +kernel
theorem dX4_pass__31 : decode cX4_pass_ 31 = .ok (.iload_n 2, 1) := by decide +kernel
theorem dX4_pass__32 : decode cX4_pass_ 32 = .ok (.aload_n 0, 1) := by decide +kernel
theorem dX4_pass__33 : decode cX4_pass_ 33 = .ok (.aload_n 0, 1) := by decide +kernel
theorem dX4_pass__34 : decode cX4_pass_ 34 = .ok (.getfield 13, 3) := by decide +kernel
theorem dX4_pass__37 : decode cX4_pass_ 37 = .ok (.aload_n 0, 1) := by decide +kernel
theorem dX4_pass__38 : decode cX4_pass_ 38 = .ok (.getfield 17, 3) := by decide +kernel
theorem dX4_pass__41 : decode cX4_pass_ 41 = .ok (.aload_n 0, 1) := by decide +kernel
theorem dX4_pass__42 : decode cX4_pass_ 42 = .ok (.getfield 72, 3) := by decide +kernel
theorem dX4_pass__45 : decode cX4_pass_ 45 = .ok (.invokevirtual 75, 3) := by decide +kernel
theorem dX4_pass__48 : decode cX4_pass_ 48 = .ok (.iadd, 1) := by decide +kernel
theorem dX4_pass__49 : decode cX4_pass_ 49 = .ok (.istore_n 2, 1) := by decide +kernel
theorem dX4_pass__50 : decode cX4_pass_ 50 = .ok (.aload_n 0, 1) := by decide +kernel
theorem dX4_pass__51 : decode cX4_pass_ 51 = .ok (.dup, 1) := by decide +kernel
theorem dX4_pass__52 : decode cX4_pass_ 52 = .ok (.getfield 72, 3) := by decide +kernel
theorem dX4_pass__55 : decode cX4_pass_ 55 = .ok (.iconst 1, 1) := by decide +kernel
theorem dX4_pass__56 : decode cX4_pass_ 56 = .ok (.iadd, 1) := by decide +kernel
theorem dX4_pass__57 : decode cX4_pass_ 57 = .ok (.putfield 72, 3) := by decide +kernel
theorem dX4_pass__60 : decode cX4_pass_ 60 = .ok (.iinc 3 1, 3) := by decide +kernel
theorem dX4_pass__63 : decode cX4_pass_ 63 = .ok (.goto (-37), 3) := by decide +kernel
theorem dX4_pass__66 : decode cX4_pass_ 66 = .ok (.iload_n 2, 1) := by decide +kernel
theorem dX4_pass__67 : decode cX4_pass_ 67 = .ok (.ireturn, 1) := by decide +kernel
theorem dX4_rate_0 : decode cX4_rate 0 = .ok (.aload_n 0, 1) := by decide +kernel
theorem dX4_rate_1 : decode cX4_rate 1 = .ok (.iconst 0, 1) := by decide +kernel
theorem dX4_rate_2 : decode cX4_rate 2 = .ok (.putfield 1, 3) := by decide +kernel
theorem dX4_rate_5 : decode cX4_rate 5 = .ok (.aload_n 0, 1) := by decide +kernel
theorem dX4_rate_6 : decode cX4_rate 6 = .ok (.iload_n 1, 1) := by decide +kernel
theorem dX4_rate_7 : decode cX4_rate 7 = .ok (.invokevirtual 87, 3) := by decide +kernel
theorem dX4_rate_10 : decode cX4_rate 10 = .ok (.ifCond .ne 9, 3) := by decide +kernel
theorem dX4_rate_13 : decode cX4_rate 13 = .ok (.aload_n 0, 1) := by decide +kernel
theorem dX4_rate_14 : decode cX4_rate 14 = .ok (.iconst 1, 1) := by decide +kernel
theorem dX4_rate_15 : decode cX4_rate 15 = .ok (.invokevirtual 83, 3) := by decide +kernel
theorem dX4_rate_18 : decode cX4_rate 18 = .ok (.ireturn, 1) := by decide +kernel
theorem dX4_rate_19 : decode cX4_rate 19 = .ok (.aload_n 0, 1) := by decide +kernel
theorem dX4_rate_20 : decode cX4_rate 20 = .ok (.invokevirtual 119, 3) := by decide +kernel
theorem dX4_rate_23 : decode cX4_rate 23 = .ok (.aload_n 0, 1) := by decide +kernel
theorem dX4_rate_24 : decode cX4_rate 24 = .ok (.aload_n 0, 1) := by decide +kernel
theorem dX4_rate_25 : decode cX4_rate 25 = .ok (.getfield 20, 3) := by decide +kernel
theorem dX4_rate_28 : decode cX4_rate 28 = .ok (.bipush 20, 2) := by decide +kernel
theorem dX4_rate_30 : decode cX4_rate 30 = .ok (.iload_n 1, 1) := by decide +kernel
theorem dX4_rate_31 : decode cX4_rate 31 = .ok (.imul, 1) := by decide +kernel
theorem dX4_rate_32 : decode cX4_rate 32 = .ok (.invokevirtual 58, 3) := by decide +kernel
theorem dX4_rate_35 : decode cX4_rate 35 = .ok (.ireturn, 1) := by decide +kernel
theorem dX4_when_0 : decode cX4_when 0 = .ok (.aload_n 0, 1) := by decide +kernel
theorem dX4_when_1 : decode cX4_when 1 = .ok (.iconst 0, 1) := by decide +kernel
theorem dX4_when_2 : decode cX4_when 2 = .ok (.putfield 1, 3) := by decide +kernel
theorem dX4_when_5 : decode cX4_when 5 = .ok (.aload_n 0, 1) := by decide +kernel
theorem dX4_when_6 : decode cX4_when 6 = .ok (.iload_n 1, 1) := by decide +kernel
theorem dX4_when_7 : decode cX4_when 7 = .ok (.invokevirtual 87, 3) := by decide +kernel
theorem dX4_when_10 : decode cX4_when 10 = .ok (.ifCond .ne 9, 3) := by decide +kernel
theorem dX4_when_13 : decode cX4_when 13 = .ok (.aload_n 0, 1) := by decide +kernel
theorem dX4_when_14 : decode cX4_when 14 = .ok (.iconst 1, 1) := by decide +kernel
theorem dX4_when_15 : decode cX4_when 15 = .ok (.invokevirtual 83, 3) := by decide +kernel
theorem dX4_when_18 : decode cX4_when 18 = .ok (.ireturn, 1) := by decide +kernel
theorem dX4_when_19 : decode cX4_when 19 = .ok (.iload_n 2, 1) := by decide +kernel
theorem dX4_when_20 : decode cX4_when 20 = .ok (.iconst 1, 1) := by decide +kernel
theorem dX4_when_21 : decode cX4_when 21 = .ok (.sipush 9999, 3) := by decide +kernel
theorem dX4_when_24 : decode cX4_when 24 = .ok (.invokestatic 32, 3) := by decide +kernel
theorem dX4_when_27 : decode cX4_when 27 = .ok (.ifCond .ne 9, 3) := by decide +kernel
theorem dX4_when_30 : decode cX4_when 30 = .ok (.aload_n 0, 1) := by decide +kernel
theorem dX4_when_31 : decode cX4_when 31 = .ok (.iconst 2, 1) := by decide +kernel
theorem dX4_when_32 : decode cX4_when 32 = .ok (.invokevirtual 83, 3) := by decide +kernel
theorem dX4_when_35 : decode cX4_when 35 = .ok (.ireturn, 1) := by decide +kernel
theorem dX4_when_36 : decode cX4_when 36 = .ok (.aload_n 0, 1) := by decide +kernel
theorem dX4_when_37 : decode cX4_when 37 = .ok (.invokevirtual 119, 3) := by decide +kernel
theorem dX4_when_40 : decode cX4_when 40 = .ok (.iload_n 2, 1) := by decide +kernel
theorem dX4_when_41 : decode cX4_when 41 = .ok (.istore_n 3, 1) := by decide +kernel
theorem dX4_when_42 : decode cX4_when 42 = .ok (.iconst 1, 1) := by decide +kernel
theorem dX4_when_43 : decode cX4_when 43 = .ok (.istore 4, 2) := by decide +kernel
theorem dX4_when_45 : decode cX4_when 45 = .ok (.iload 4, 2) := by decide +kernel
theorem dX4_when_47 : decode cX4_when 47 = .ok (.sipush 480, 3) := by decide +kernel
theorem dX4_when_50 : decode cX4_when 50 = .ok (.if_icmp .gt 31, 3) := by decide +kernel
theorem dX4_when_53 : decode cX4_when 53 = .ok (.iload_n 3, 1) := by decide +kernel
theorem dX4_when_54 : decode cX4_when 54 = .ok (.aload_n 0, 1) := by decide +kernel
theorem dX4_when_55 : decode cX4_when 55 = .ok (.aload_n 0, 1) := by decide +kernel
theorem dX4_when_56 : decode cX4_when 56 = .ok (.getfield 20, 3) := by decide +kernel
theorem dX4_when_59 : decode cX4_when 59 = .ok (.bipush 20, 2) := by decide +kernel
theorem dX4_when_61 : decode cX4_when 61 = .ok (.iload_n 1, 1) := by decide +kernel
theorem dX4_when_62 : decode cX4_when 62 = .ok (.imul, 1) := by decide +kernel
theorem dX4_when_63 : decode cX4_when 63 = .ok (.invokevirtual 58, 3) := by decide +kernel
theorem dX4_when_66 : decode cX4_when 66 = .ok (.isub, 1) := by decide +kernel
theorem dX4_when_67 : decode cX4_when 67 = .ok (.istore_n 3, 1) := by decide +kernel
theorem dX4_when_68 : decode cX4_when 68 = .ok (.iload_n 3, 1) := by decide +kernel
theorem dX4_when_69 : decode cX4_when 69 = .ok (.ifCond .gt 6, 3) := by decide +kernel
theorem dX4_when_72 : decode cX4_when 72 = .ok (.iload 4, 2) := by decide +kernel
theorem dX4_when_74 : decode cX4_when 74 = .ok (.ireturn, 1) := by decide +kernel
theorem dX4_when_75 : decode cX4_when 75 = .ok (.iinc 4 1, 3) := by decide +kernel
theorem dX4_when_78 : decode cX4_when 78 = .ok (.goto (-33), 3) := by decide +kernel
theorem dX4_when_81 : decode cX4_when 81 = .ok (.iconst (-1), 1) := by decide +kernel
theorem dX4_when_82 : decode cX4_when 82 = .ok (.ireturn, 1) := by decide +kernel
theorem dX4_foresee_0 : decode cX4_foresee 0 = .ok (.aload_n 0, 1) := by decide +kernel
theorem dX4_foresee_1 : decode cX4_foresee 1 = .ok (.iconst 0, 1) := by decide +kernel
theorem dX4_foresee_2 : decode cX4_foresee 2 = .ok (.putfield 1, 3) := by decide +kernel
theorem dX4_foresee_5 : decode cX4_foresee 5 = .ok (.iload_n 1, 1) := by decide +kernel
theorem dX4_foresee_6 : decode cX4_foresee 6 = .ok (.iconst 1, 1) := by decide +kernel
theorem dX4_foresee_7 : decode cX4_foresee 7 = .ok (.sipush 240, 3) := by decide +kernel
theorem dX4_foresee_10 : decode cX4_foresee 10 = .ok (.invokestatic 32, 3) := by decide +kernel
theorem dX4_foresee_13 : decode cX4_foresee 13 = .ok (.ifCond .ne 9, 3) := by decide +kernel
theorem dX4_foresee_16 : decode cX4_foresee 16 = .ok (.aload_n 0, 1) := by decide +kernel
theorem dX4_foresee_17 : decode cX4_foresee 17 = .ok (.iconst 1, 1) := by decide +kernel
theorem dX4_foresee_18 : decode cX4_foresee 18 = .ok (.invokevirtual 83, 3) := by decide +kernel
theorem dX4_foresee_21 : decode cX4_foresee 21 = .ok (.ireturn, 1) := by decide +kernel
theorem dX4_foresee_22 : decode cX4_foresee 22 = .ok (.iload_n 2, 1) := by decide +kernel
theorem dX4_foresee_23 : decode cX4_foresee 23 = .ok (.iconst 3, 1) := by decide +kernel
theorem dX4_foresee_24 : decode cX4_foresee 24 = .ok (.bipush 8, 2) := by decide +kernel
theorem dX4_foresee_26 : decode cX4_foresee 26 = .ok (.invokestatic 32, 3) := by decide +kernel
theorem dX4_foresee_29 : decode cX4_foresee 29 = .ok (.ifCond .ne 9, 3) := by decide +kernel
theorem dX4_foresee_32 : decode cX4_foresee 32 = .ok (.aload_n 0, 1) := by decide +kernel
theorem dX4_foresee_33 : decode cX4_foresee 33 = .ok (.iconst 2, 1) := by decide +kernel
theorem dX4_foresee_34 : decode cX4_foresee 34 = .ok (.invokevirtual 83, 3) := by decide +kernel
theorem dX4_foresee_37 : decode cX4_foresee 37 = .ok (.ireturn, 1) := by decide +kernel
theorem dX4_foresee_38 : decode cX4_foresee 38 = .ok (.aload_n 0, 1) := by decide +kernel
theorem dX4_foresee_39 : decode cX4_foresee 39 = .ok (.invokevirtual 119, 3) := by decide +kernel
theorem dX4_foresee_42 : decode cX4_foresee 42 = .ok (.aload_n 0, 1) := by decide +kernel
theorem dX4_foresee_43 : decode cX4_foresee 43 = .ok (.iload_n 1, 1) := by decide +kernel
theorem dX4_foresee_44 : decode cX4_foresee 44 = .ok (.invokevirtual 122, 3) := by decide +kernel
theorem dX4_foresee_47 : decode cX4_foresee 47 = .ok (.aload_n 0, 1) := by decide +kernel
theorem dX4_foresee_48 : decode cX4_foresee 48 = .ok (.aload_n 0, 1) := by decide +kernel
theorem dX4_foresee_49 : decode cX4_foresee 49 = .ok (.getfield 20, 3) := by decide +kernel
theorem dX4_foresee_52 : decode cX4_foresee 52 = .ok (.aload_n 0, 1) := by decide +kernel
theorem dX4_foresee_53 : decode cX4_foresee 53 = .ok (.getfield 23, 3) := by decide +kernel
theorem dX4_foresee_56 : decode cX4_foresee 56 = .ok (.iload_n 2, 1) := by decide +kernel
theorem dX4_foresee_57 : decode cX4_foresee 57 = .ok (.invokevirtual 113, 3) := by decide +kernel
theorem dX4_foresee_60 : decode cX4_foresee 60 = .ok (.ireturn, 1) := by decide +kernel
theorem dX4_worthOf_0 : decode cX4_worthOf 0 = .ok (.aload_n 0, 1) := by decide +kernel
theorem dX4_worthOf_1 : decode cX4_worthOf 1 = .ok (.invokevirtual 119, 3) := by decide +kernel
theorem dX4_worthOf_4 : decode cX4_worthOf 4 = .ok (.aload_n 0, 1) := by decide +kernel
theorem dX4_worthOf_5 : decode cX4_worthOf 5 = .ok (.getfield 20, 3) := by decide +kernel
theorem dX4_worthOf_8 : decode cX4_worthOf 8 = .ok (.bipush 20, 2) := by decide +kernel
theorem dX4_worthOf_10 : decode cX4_worthOf 10 = .ok (.iload_n 1, 1) := by decide +kernel
theorem dX4_worthOf_11 : decode cX4_worthOf 11 = .ok (.imul, 1) := by decide +kernel
theorem dX4_worthOf_12 : decode cX4_worthOf 12 = .ok (.iconst 1, 1) := by decide +kernel
theorem dX4_worthOf_13 : decode cX4_worthOf 13 = .ok (.iadd, 1) := by decide +kernel
theorem dX4_worthOf_14 : decode cX4_worthOf 14 = .ok (.iload_n 2, 1) := by decide +kernel
theorem dX4_worthOf_15 : decode cX4_worthOf 15 = .ok (.iastore, 1) := by decide +kernel
theorem dX4_worthOf_16 : decode cX4_worthOf 16 = .ok (.iconst 0, 1) := by decide +kernel
theorem dX4_worthOf_17 : decode cX4_worthOf 17 = .ok (.istore 4, 2) := by decide +kernel
theorem dX4_worthOf_19 : decode cX4_worthOf 19 = .ok (.iconst 0, 1) := by decide +kernel
theorem dX4_worthOf_20 : decode cX4_worthOf 20 = .ok (.istore 5, 2) := by decide +kernel
theorem dX4_worthOf_22 : decode cX4_worthOf 22 = .ok (.iload 5, 2) := by decide +kernel
theorem dX4_worthOf_24 : decode cX4_worthOf 24 = .ok (.iload_n 3, 1) := by decide +kernel
theorem dX4_worthOf_25 : decode cX4_worthOf 25 = .ok (.if_icmp .ge 26, 3) := by decide +kernel
theorem dX4_worthOf_28 : decode cX4_worthOf 28 = .ok (.iload 4, 2) := by decide +kernel
theorem dX4_worthOf_30 : decode cX4_worthOf 30 = .ok (.aload_n 0, 1) := by decide +kernel
theorem dX4_worthOf_31 : decode cX4_worthOf 31 = .ok (.aload_n 0, 1) := by decide +kernel
theorem dX4_worthOf_32 : decode cX4_worthOf 32 = .ok (.getfield 20, 3) := by decide +kernel
theorem dX4_worthOf_35 : decode cX4_worthOf 35 = .ok (.bipush 20, 2) := by decide +kernel
theorem dX4_worthOf_37 : decode cX4_worthOf 37 = .ok (.iload_n 1, 1) := by decide +kernel
theorem dX4_worthOf_38 : decode cX4_worthOf 38 = .ok (.imul, 1) := by decide +kernel
theorem dX4_worthOf_39 : decode cX4_worthOf 39 = .ok (.invokevirtual 58, 3) := by decide +kernel
theorem dX4_worthOf_42 : decode cX4_worthOf 42 = .ok (.iadd, 1) := by decide +kernel
theorem dX4_worthOf_43 : decode cX4_worthOf 43 = .ok (.istore 4, 2) := by decide +kernel
theorem dX4_worthOf_45 : decode cX4_worthOf 45 = .ok (.iinc 5 1, 3) := by decide +kernel
theorem dX4_worthOf_48 : decode cX4_worthOf 48 = .ok (.goto (-26), 3) := by decide +kernel
theorem dX4_worthOf_51 : decode cX4_worthOf 51 = .ok (.iload 4, 2) := by decide +kernel
theorem dX4_worthOf_53 : decode cX4_worthOf 53 = .ok (.getstatic 52, 3) := by decide +kernel
theorem dX4_worthOf_56 : decode cX4_worthOf 56 = .ok (.iload_n 2, 1) := by decide +kernel
theorem dX4_worthOf_57 : decode cX4_worthOf 57 = .ok (.iaload, 1) := by decide +kernel
theorem dX4_worthOf_58 : decode cX4_worthOf 58 = .ok (.imul, 1) := by decide +kernel
theorem dX4_worthOf_59 : decode cX4_worthOf 59 = .ok (.ireturn, 1) := by decide +kernel
theorem dX4_advise_0 : decode cX4_advise 0 = .ok (.aload_n 0, 1) := by decide +kernel
theorem dX4_advise_1 : decode cX4_advise 1 = .ok (.iconst 0, 1) := by decide +kernel
theorem dX4_advise_2 : decode cX4_advise 2 = .ok (.putfield 1, 3) := by decide +kernel
theorem dX4_advise_5 : decode cX4_advise 5 = .ok (.aload_n 0, 1) := by decide +kernel
theorem dX4_advise_6 : decode cX4_advise 6 = .ok (.iload_n 1, 1) := by decide +kernel
theorem dX4_advise_7 : decode cX4_advise 7 = .ok (.invokevirtual 87, 3) := by decide +kernel
theorem dX4_advise_10 : decode cX4_advise 10 = .ok (.ifCond .ne 9, 3) := by decide +kernel
theorem dX4_advise_13 : decode cX4_advise 13 = .ok (.aload_n 0, 1) := by decide +kernel
theorem dX4_advise_14 : decode cX4_advise 14 = .ok (.iconst 1, 1) := by decide +kernel
theorem dX4_advise_15 : decode cX4_advise 15 = .ok (.invokevirtual 83, 3) := by decide +kernel
theorem dX4_advise_18 : decode cX4_advise 18 = .ok (.ireturn, 1) := by decide +kernel
theorem dX4_advise_19 : decode cX4_advise 19 = .ok (.iload_n 2, 1) := by decide +kernel
theorem dX4_advise_20 : decode cX4_advise 20 = .ok (.iconst 1, 1) := by decide +kernel
theorem dX4_advise_21 : decode cX4_advise 21 = .ok (.bipush 120, 2) := by decide +kernel
theorem dX4_advise_23 : decode cX4_advise 23 = .ok (.invokestatic 32, 3) := by decide +kernel
theorem dX4_advise_26 : decode cX4_advise 26 = .ok (.ifCond .ne 9, 3) := by decide +kernel
theorem dX4_advise_29 : decode cX4_advise 29 = .ok (.aload_n 0, 1) := by decide +kernel
theorem dX4_advise_30 : decode cX4_advise 30 = .ok (.iconst 2, 1) := by decide +kernel
theorem dX4_advise_31 : decode cX4_advise 31 = .ok (.invokevirtual 83, 3) := by decide +kernel
theorem dX4_advise_34 : decode cX4_advise 34 = .ok (.ireturn, 1) := by decide +kernel
theorem dX4_advise_35 : decode cX4_advise 35 = .ok (.iconst 0, 1) := by decide +kernel
theorem dX4_advise_36 : decode cX4_advise 36 = .ok (.istore_n 3, 1) := by decide +kernel
theorem dX4_advise_37 : decode cX4_advise 37 = .ok (.iconst 1, 1) := by decide +kernel
theorem dX4_advise_38 : decode cX4_advise 38 = .ok (.istore 4, 2) := by decide +kernel
theorem dX4_advise_40 : decode cX4_advise 40 = .ok (.iload 4, 2) := by decide +kernel
theorem dX4_advise_42 : decode cX4_advise 42 = .ok (.iconst 4, 1) := by decide +kernel
theorem dX4_advise_43 : decode cX4_advise 43 = .ok (.if_icmp .ge 30, 3) := by decide +kernel
theorem dX4_advise_46 : decode cX4_advise 46 = .ok (.aload_n 0, 1) := by decide +kernel
theorem dX4_advise_47 : decode cX4_advise 47 = .ok (.iload_n 1, 1) := by decide +kernel
theorem dX4_advise_48 : decode cX4_advise 48 = .ok (.iload 4, 2) := by decide +kernel
theorem dX4_advise_50 : decode cX4_advise 50 = .ok (.iload_n 2, 1) := by decide +kernel
theorem dX4_advise_51 : decode cX4_advise 51 = .ok (.invokevirtual 126, 3) := by decide +kernel
theorem dX4_advise_54 : decode cX4_advise 54 = .ok (.aload_n 0, 1) := by decide +kernel
theorem dX4_advise_55 : decode cX4_advise 55 = .ok (.iload_n 1, 1) := by decide +kernel
theorem dX4_advise_56 : decode cX4_advise 56 = .ok (.iload_n 3, 1) := by decide +kernel
theorem dX4_advise_57 : decode cX4_advise 57 = .ok (.iload_n 2, 1) := by decide +kernel
theorem dX4_advise_58 : decode cX4_advise 58 = .ok (.invokevirtual 126, 3) := by decide +kernel
theorem dX4_advise_61 : decode cX4_advise 61 = .ok (.if_icmp .le 6, 3) := by decide +kernel
theorem dX4_advise_64 : decode cX4_advise 64 = .ok (.iload 4, 2) := by decide +kernel
theorem dX4_advise_66 : decode cX4_advise 66 = .ok (.istore_n 3, 1) := by decide +kernel
theorem dX4_advise_67 : decode cX4_advise 67 = .ok (.iinc 4 1, 3) := by decide +kernel
theorem dX4_advise_70 : decode cX4_advise 70 = .ok (.goto (-30), 3) := by decide +kernel
theorem dX4_advise_73 : decode cX4_advise 73 = .ok (.iload_n 3, 1) := by decide +kernel
theorem dX4_advise_74 : decode cX4_advise 74 = .ok (.ireturn, 1) := by decide +kernel
theorem dX4_richest_0 : decode cX4_richest 0 = .ok (.aload_n 0, 1) := by decide +kernel
theorem dX4_richest_1 : decode cX4_richest 1 = .ok (.iconst 0, 1) := by decide +kernel
theorem dX4_richest_2 : decode cX4_richest 2 = .ok (.putfield 1, 3) := by decide +kernel
theorem dX4_richest_5 : decode cX4_richest 5 = .ok (.iconst (-1), 1) := by decide +kernel
theorem dX4_richest_6 : decode cX4_richest 6 = .ok (.istore_n 1, 1) := by decide +kernel
theorem dX4_richest_7 : decode cX4_richest 7 = .ok (.iconst 0, 1) := by decide +kernel
theorem dX4_richest_8 : decode cX4_richest 8 = .ok (.istore_n 2, 1) := by decide +kernel
theorem dX4_richest_9 : decode cX4_richest 9 = .ok (.iload_n 2, 1) := by decide +kernel
theorem dX4_richest_10 : decode cX4_richest 10 = .ok (.aload_n 0, 1) := by decide +kernel
theorem dX4_richest_11 : decode cX4_richest 11 = .ok (.getfield 29, 3) := by decide +kernel
theorem dX4_richest_14 : decode cX4_richest 14 = .ok (.if_icmp .ge 28, 3) := by decide +kernel
theorem dX4_richest_17 : decode cX4_richest 17 = .ok (.iload_n 1, 1) := by decide +kernel
theorem dX4_richest_18 : decode cX4_richest 18 = .ok (.ifCond .lt 16, 3) := by decide +kernel
theorem dX4_richest_21 : decode cX4_richest 21 = .ok (.aload_n 0, 1) := by decide +kernel
theorem dX4_richest_22 : decode cX4_richest 22 = .ok (.iload_n 2, 1) := by decide +kernel
theorem dX4_richest_23 : decode cX4_richest 23 = .ok (.invokevirtual 130, 3) := by decide +kernel
theorem dX4_richest_26 : decode cX4_richest 26 = .ok (.aload_n 0, 1) := by decide +kernel
theorem dX4_richest_27 : decode cX4_richest 27 = .ok (.iload_n 1, 1) := by decide +kernel
theorem dX4_richest_28 : decode cX4_richest 28 = .ok (.invokevirtual 130, 3) := by decide +kernel
theorem dX4_richest_31 : decode cX4_richest 31 = .ok (.if_icmp .le 5, 3) := by decide +kernel
theorem dX4_richest_34 : decode cX4_richest 34 = .ok (.iload_n 2, 1) := by decide +kernel
theorem dX4_richest_35 : decode cX4_richest 35 = .ok (.istore_n 1, 1) := by decide +kernel
theorem dX4_richest_36 : decode cX4_richest 36 = .ok (.iinc 2 1, 3) := by decide +kernel
theorem dX4_richest_39 : decode cX4_richest 39 = .ok (.goto (-30), 3) := by decide +kernel
theorem dX4_richest_42 : decode cX4_richest 42 = .ok (.iload_n 1, 1) := by decide +kernel
theorem dX4_richest_43 : decode cX4_richest 43 = .ok (.ireturn, 1) := by decide +kernel
theorem dX4_wealth_0 : decode cX4_wealth 0 = .ok (.aload_n 0, 1) := by decide +kernel
theorem dX4_wealth_1 : decode cX4_wealth 1 = .ok (.getfield 13, 3) := by decide +kernel
theorem dX4_wealth_4 : decode cX4_wealth 4 = .ok (.bipush 20, 2) := by decide +kernel
theorem dX4_wealth_6 : decode cX4_wealth 6 = .ok (.iload_n 1, 1) := by decide +kernel
theorem dX4_wealth_7 : decode cX4_wealth 7 = .ok (.imul, 1) := by decide +kernel
theorem dX4_wealth_8 : decode cX4_wealth 8 = .ok (.bipush 7, 2) := by decide +kernel
theorem dX4_wealth_10 : decode cX4_wealth 10 = .ok (.iadd, 1) := by decide +kernel
theorem dX4_wealth_11 : decode cX4_wealth 11 = .ok (.iaload, 1) := by decide +kernel
theorem dX4_wealth_12 : decode cX4_wealth 12 = .ok (.aload_n 0, 1) := by decide +kernel
theorem dX4_wealth_13 : decode cX4_wealth 13 = .ok (.getfield 13, 3) := by decide +kernel
theorem dX4_wealth_16 : decode cX4_wealth 16 = .ok (.bipush 20, 2) := by decide +kernel
theorem dX4_wealth_18 : decode cX4_wealth 18 = .ok (.iload_n 1, 1) := by decide +kernel
theorem dX4_wealth_19 : decode cX4_wealth 19 = .ok (.imul, 1) := by decide +kernel
theorem dX4_wealth_20 : decode cX4_wealth 20 = .ok (.bipush 8, 2) := by decide +kernel
theorem dX4_wealth_22 : decode cX4_wealth 22 = .ok (.iadd, 1) := by decide +kernel
theorem dX4_wealth_23 : decode cX4_wealth 23 = .ok (.iaload, 1) := by decide +kernel
theorem dX4_wealth_24 : decode cX4_wealth 24 = .ok (.isub, 1) := by decide +kernel
theorem dX4_wealth_25 : decode cX4_wealth 25 = .ok (.ireturn, 1) := by decide +kernel
theorem dX4_mean_0 : decode cX4_mean 0 = .ok (.aload_n 0, 1) := by decide +kernel
theorem dX4_mean_1 : decode cX4_mean 1 = .ok (.iconst 0, 1) := by decide +kernel
theorem dX4_mean_2 : decode cX4_mean 2 = .ok (.putfield 1, 3) := by decide +kernel
theorem dX4_mean_5 : decode cX4_mean 5 = .ok (.aload_n 0, 1) := by decide +kernel
theorem dX4_mean_6 : decode cX4_mean 6 = .ok (.getfield 29, 3) := by decide +kernel
theorem dX4_mean_9 : decode cX4_mean 9 = .ok (.ifCond .ne 7, 3) := by decide +kernel
theorem dX4_mean_12 : decode cX4_mean 12 = .ok (.dconst 0, 1) := by decide +kernel
theorem dX4_mean_13 : decode cX4_mean 13 = .ok (.goto 19, 3) := by decide +kernel
theorem dX4_mean_16 : decode cX4_mean 16 = .ok (.aload_n 0, 1) := by decide +kernel
theorem dX4_mean_17 : decode cX4_mean 17 = .ok (.aload_n 0, 1) := by decide +kernel
theorem dX4_mean_18 : decode cX4_mean 18 = .ok (.getfield 13, 3) := by decide +kernel
theorem dX4_mean_21 : decode cX4_mean 21 = .ok (.iconst 5, 1) := by decide +kernel
theorem dX4_mean_22 : decode cX4_mean 22 = .ok (.invokevirtual 99, 3) := by decide +kernel
theorem dX4_mean_25 : decode cX4_mean 25 = .ok (.i2d, 1) := by decide +kernel
theorem dX4_mean_26 : decode cX4_mean 26 = .ok (.aload_n 0, 1) := by decide +kernel
theorem dX4_mean_27 : decode cX4_mean 27 = .ok (.getfield 29, 3) := by decide +kernel
theorem dX4_mean_30 : decode cX4_mean 30 = .ok (.i2d, 1) := by decide +kernel
theorem dX4_mean_31 : decode cX4_mean 31 = .ok (.ddiv, 1) := by decide +kernel
theorem dX4_mean_32 : decode cX4_mean 32 = .ok (.dreturn, 1) := by decide +kernel
theorem dX4_digest_0 : decode cX4_digest 0 = .ok (.aload_n 0, 1) := by decide +kernel
theorem dX4_digest_1 : decode cX4_digest 1 = .ok (.iconst 0, 1) := by decide +kernel
theorem dX4_digest_2 : decode cX4_digest 2 = .ok (.putfield 1, 3) := by decide +kernel
theorem dX4_digest_5 : decode cX4_digest 5 = .ok (.ldc2_w 133, 3) := by decide +kernel
theorem dX4_digest_8 : decode cX4_digest 8 = .ok (.lstore_n 1, 1) := by decide +kernel
theorem dX4_digest_9 : decode cX4_digest 9 = .ok (.iconst 0, 1) := by decide +kernel
theorem dX4_digest_10 : decode cX4_digest 10 = .ok (.istore_n 3, 1) := by decide +kernel
theorem dX4_digest_11 : decode cX4_digest 11 = .ok (.iload_n 3, 1) := by decide +kernel
theorem dX4_digest_12 : decode cX4_digest 12 = .ok (.bipush 11, 2) := by decide +kernel
theorem dX4_digest_14 : decode cX4_digest 14 = .ok (.if_icmp .ge 22, 3) := by decide +kernel
theorem dX4_digest_17 : decode cX4_digest 17 = .ok (.lload_n 1, 1) := by decide +kernel
theorem dX4_digest_18 : decode cX4_digest 18 = .ok (.ldc2_w 135, 3) := by decide +kernel
theorem dX4_digest_21 : decode cX4_digest 21 = .ok (.lmul, 1) := by decide +kernel
theorem dX4_digest_22 : decode cX4_digest 22 = .ok (.aload_n 0, 1) := by decide +kernel
theorem dX4_digest_23 : decode cX4_digest 23 = .ok (.iload_n 3, 1) := by decide +kernel
theorem dX4_digest_24 : decode cX4_digest 24 = .ok (.invokevirtual 116, 3) := by decide +kernel
theorem dX4_digest_27 : decode cX4_digest 27 = .ok (.i2l, 1) := by decide +kernel
theorem dX4_digest_28 : decode cX4_digest 28 = .ok (.ladd, 1) := by decide +kernel
theorem dX4_digest_29 : decode cX4_digest 29 = .ok (.lstore_n 1, 1) := by decide +kernel
theorem dX4_digest_30 : decode cX4_digest 30 = .ok (.iinc 3 1, 3) := by decide +kernel
theorem dX4_digest_33 : decode cX4_digest 33 = .ok (.goto (-22), 3) := by decide +kernel
theorem dX4_digest_36 : decode cX4_digest 36 = .ok (.iconst 0, 1) := by decide +kernel
theorem dX4_digest_37 : decode cX4_digest 37 = .ok (.istore_n 3, 1) := by decide +kernel
theorem dX4_digest_38 : decode cX4_digest 38 = .ok (.iload_n 3, 1) := by decide +kernel
theorem dX4_digest_39 : decode cX4_digest 39 = .ok (.aload_n 0, 1) := by decide +kernel
theorem dX4_digest_40 : decode cX4_digest 40 = .ok (.getfield 29, 3) := by decide +kernel
theorem dX4_digest_43 : decode cX4_digest 43 = .ok (.if_icmp .ge 104, 3) := by decide +kernel
theorem dX4_digest_46 : decode cX4_digest 46 = .ok (.iconst 0, 1) := by decide +kernel
theorem dX4_digest_47 : decode cX4_digest 47 = .ok (.istore 4, 2) := by decide +kernel
theorem dX4_digest_49 : decode cX4_digest 49 = .ok (.iload 4, 2) := by decide +kernel
theorem dX4_digest_51 : decode cX4_digest 51 = .ok (.bipush 12, 2) := by decide +kernel
theorem dX4_digest_53 : decode cX4_digest 53 = .ok (.if_icmp .ge 29, 3) := by decide +kernel
theorem dX4_digest_56 : decode cX4_digest 56 = .ok (.lload_n 1, 1) := by decide +kernel
theorem dX4_digest_57 : decode cX4_digest 57 = .ok (.ldc2_w 135, 3) := by decide +kernel
theorem dX4_digest_60 : decode cX4_digest 60 = .ok (.lmul, 1) := by decide +kernel
theorem dX4_digest_61 : decode cX4_digest 61 = .ok (.aload_n 0, 1) := by decide +kernel
theorem dX4_digest_62 : decode cX4_digest 62 = .ok (.getfield 13, 3) := by decide +kernel
theorem dX4_digest_65 : decode cX4_digest 65 = .ok (.bipush 20, 2) := by decide +kernel
theorem dX4_digest_67 : decode cX4_digest 67 = .ok (.iload_n 3, 1) := by decide +kernel
theorem dX4_digest_68 : decode cX4_digest 68 = .ok (.imul, 1) := by decide +kernel
theorem dX4_digest_69 : decode cX4_digest 69 = .ok (.iload 4, 2) := by decide +kernel
theorem dX4_digest_71 : decode cX4_digest 71 = .ok (.iadd, 1) := by decide +kernel
theorem dX4_digest_72 : decode cX4_digest 72 = .ok (.iaload, 1) := by decide +kernel
theorem dX4_digest_73 : decode cX4_digest 73 = .ok (.i2l, 1) := by decide +kernel
theorem dX4_digest_74 : decode cX4_digest 74 = .ok (.ladd, 1) := by decide +kernel
theorem dX4_digest_75 : decode cX4_digest 75 = .ok (.lstore_n 1, 1) := by decide +kernel
theorem dX4_digest_76 : decode cX4_digest 76 = .ok (.iinc 4 1, 3) := by decide +kernel
theorem dX4_digest_79 : decode cX4_digest 79 = .ok (.goto (-30), 3) := by decide +kernel
theorem dX4_digest_82 : decode cX4_digest 82 = .ok (.iconst 0, 1) := by decide +kernel
theorem dX4_digest_83 : decode cX4_digest 83 = .ok (.istore 4, 2) := by decide +kernel
theorem dX4_digest_85 : decode cX4_digest 85 = .ok (.iload 4, 2) := by decide +kernel
theorem dX4_digest_87 : decode cX4_digest 87 = .ok (.iconst 4, 1) := by decide +kernel
theorem dX4_digest_88 : decode cX4_digest 88 = .ok (.if_icmp .ge 53, 3) := by decide +kernel
theorem dX4_digest_91 : decode cX4_digest 91 = .ok (.lload_n 1, 1) := by decide +kernel
theorem dX4_digest_92 : decode cX4_digest 92 = .ok (.ldc2_w 135, 3) := by decide +kernel
theorem dX4_digest_95 : decode cX4_digest 95 = .ok (.lmul, 1) := by decide +kernel
theorem dX4_digest_96 : decode cX4_digest 96 = .ok (.aload_n 0, 1) := by decide +kernel
theorem dX4_digest_97 : decode cX4_digest 97 = .ok (.getfield 13, 3) := by decide +kernel
theorem dX4_digest_100 : decode cX4_digest 100 = .ok (.bipush 20, 2) := by decide +kernel
theorem dX4_digest_102 : decode cX4_digest 102 = .ok (.iload_n 3, 1) := by decide +kernel
theorem dX4_digest_103 : decode cX4_digest 103 = .ok (.imul, 1) := by decide +kernel
theorem dX4_digest_104 : decode cX4_digest 104 = .ok (.bipush 12, 2) := by decide +kernel
theorem dX4_digest_106 : decode cX4_digest 106 = .ok (.iadd, 1) := by decide +kernel
theorem dX4_digest_107 : decode cX4_digest 107 = .ok (.iload 4, 2) := by decide +kernel
theorem dX4_digest_109 : decode cX4_digest 109 = .ok (.iadd, 1) := by decide +kernel
theorem dX4_digest_110 : decode cX4_digest 110 = .ok (.iaload, 1) := by decide +kernel
theorem dX4_digest_111 : decode cX4_digest 111 = .ok (.i2l, 1) := by decide +kernel
theorem dX4_digest_112 : decode cX4_digest 112 = .ok (.ladd, 1) := by decide +kernel
theorem dX4_digest_113 : decode cX4_digest 113 = .ok (.ldc2_w 135, 3) := by decide +kernel
theorem dX4_digest_116 : decode cX4_digest 116 = .ok (.lmul, 1) := by decide +kernel
theorem dX4_digest_117 : decode cX4_digest 117 = .ok (.aload_n 0, 1) := by decide +kernel
theorem dX4_digest_118 : decode cX4_digest 118 = .ok (.getfield 13, 3) := by decide +kernel
theorem dX4_digest_121 : decode cX4_digest 121 = .ok (.bipush 20, 2) := by decide +kernel
theorem dX4_digest_123 : decode cX4_digest 123 = .ok (.iload_n 3, 1) := by decide +kernel
theorem dX4_digest_124 : decode cX4_digest 124 = .ok (.imul, 1) := by decide +kernel
theorem dX4_digest_125 : decode cX4_digest 125 = .ok (.bipush 16, 2) := by decide +kernel
theorem dX4_digest_127 : decode cX4_digest 127 = .ok (.iadd, 1) := by decide +kernel
theorem dX4_digest_128 : decode cX4_digest 128 = .ok (.iload 4, 2) := by decide +kernel
theorem dX4_digest_130 : decode cX4_digest 130 = .ok (.iadd, 1) := by decide +kernel
theorem dX4_digest_131 : decode cX4_digest 131 = .ok (.iaload, 1) := by decide +kernel
theorem dX4_digest_132 : decode cX4_digest 132 = .ok (.i2l, 1) := by decide +kernel
theorem dX4_digest_133 : decode cX4_digest 133 = .ok (.ladd, 1) := by decide +kernel
theorem dX4_digest_134 : decode cX4_digest 134 = .ok (.lstore_n 1, 1) := by decide +kernel
theorem dX4_digest_135 : decode cX4_digest 135 = .ok (.iinc 4 1, 3) := by decide +kernel
theorem dX4_digest_138 : decode cX4_digest 138 = .ok (.goto (-53), 3) := by decide +kernel
theorem dX4_digest_141 : decode cX4_digest 141 = .ok (.iinc 3 1, 3) := by decide +kernel
theorem dX4_digest_144 : decode cX4_digest 144 = .ok (.goto (-106), 3) := by decide +kernel
theorem dX4_digest_147 : decode cX4_digest 147 = .ok (.iconst 0, 1) := by decide +kernel
theorem dX4_digest_148 : decode cX4_digest 148 = .ok (.istore_n 3, 1) := by decide +kernel
theorem dX4_digest_149 : decode cX4_digest 149 = .ok (.iload_n 3, 1) := by decide +kernel
theorem dX4_digest_150 : decode cX4_digest 150 = .ok (.iconst 4, 1) := by decide +kernel
theorem dX4_digest_151 : decode cX4_digest 151 = .ok (.if_icmp .ge 40, 3) := by decide +kernel
theorem dX4_digest_154 : decode cX4_digest 154 = .ok (.iconst 0, 1) := by decide +kernel
theorem dX4_digest_155 : decode cX4_digest 155 = .ok (.istore 4, 2) := by decide +kernel
theorem dX4_digest_157 : decode cX4_digest 157 = .ok (.iload 4, 2) := by decide +kernel
theorem dX4_digest_159 : decode cX4_digest 159 = .ok (.bipush 6, 2) := by decide +kernel
theorem dX4_digest_161 : decode cX4_digest 161 = .ok (.if_icmp .ge 24, 3) := by decide +kernel
theorem dX4_digest_164 : decode cX4_digest 164 = .ok (.lload_n 1, 1) := by decide +kernel
theorem dX4_digest_165 : decode cX4_digest 165 = .ok (.ldc2_w 135, 3) := by decide +kernel
theorem dX4_digest_168 : decode cX4_digest 168 = .ok (.lmul, 1) := by decide +kernel
theorem dX4_digest_169 : decode cX4_digest 169 = .ok (.aload_n 0, 1) := by decide +kernel
theorem dX4_digest_170 : decode cX4_digest 170 = .ok (.iload_n 3, 1) := by decide +kernel
theorem dX4_digest_171 : decode cX4_digest 171 = .ok (.iload 4, 2) := by decide +kernel
theorem dX4_digest_173 : decode cX4_digest 173 = .ok (.invokevirtual 96, 3) := by decide +kernel
theorem dX4_digest_176 : decode cX4_digest 176 = .ok (.i2l, 1) := by decide +kernel
theorem dX4_digest_177 : decode cX4_digest 177 = .ok (.ladd, 1) := by decide +kernel
theorem dX4_digest_178 : decode cX4_digest 178 = .ok (.lstore_n 1, 1) := by decide +kernel
theorem dX4_digest_179 : decode cX4_digest 179 = .ok (.iinc 4 1, 3) := by decide +kernel
theorem dX4_digest_182 : decode cX4_digest 182 = .ok (.goto (-25), 3) := by decide +kernel
theorem dX4_digest_185 : decode cX4_digest 185 = .ok (.iinc 3 1, 3) := by decide +kernel
theorem dX4_digest_188 : decode cX4_digest 188 = .ok (.goto (-39), 3) := by decide +kernel
theorem dX4_digest_191 : decode cX4_digest 191 = .ok (.lload_n 1, 1) := by decide +kernel
theorem dX4_digest_192 : decode cX4_digest 192 = .ok (.lreturn, 1) := by decide +kernel
end
section
/-! what the instructions are, by program -/
theorem dL_nailer_0 : decode cL_nailer 0 = .ok (.aload 4, 2) := by decide +kernel
theorem dL_nailer_2 : decode cL_nailer 2 = .ok (.iconst 0, 1) := by decide +kernel
theorem dL_nailer_3 : decode cL_nailer 3 = .ok (.aload_n 0, 1) := by decide +kernel
theorem dL_nailer_4 : decode cL_nailer 4 = .ok (.iload_n 1, 1) := by decide +kernel
theorem dL_nailer_5 : decode cL_nailer 5 = .ok (.iload_n 2, 1) := by decide +kernel
theorem dL_nailer_6 : decode cL_nailer 6 = .ok (.iload_n 3, 1) := by decide +kernel
theorem dL_nailer_7 : decode cL_nailer 7 = .ok (.invokevirtual 7, 3) := by decide +kernel
theorem dL_nailer_10 : decode cL_nailer 10 = .ok (.i2l, 1) := by decide +kernel
theorem dL_nailer_11 : decode cL_nailer 11 = .ok (.lastore, 1) := by decide +kernel
theorem dL_nailer_12 : decode cL_nailer 12 = .ok (.goto 15, 3) := by decide +kernel
theorem dL_nailer_15 : decode cL_nailer 15 = .ok (.astore 5, 2) := by decide +kernel
theorem dL_nailer_17 : decode cL_nailer 17 = .ok (.iconst 1, 1) := by decide +kernel
theorem dL_nailer_18 : decode cL_nailer 18 = .ok (.ireturn, 1) := by decide +kernel
theorem dL_nailer_19 : decode cL_nailer 19 = .ok (.astore 5, 2) := by decide +kernel
theorem dL_nailer_21 : decode cL_nailer 21 = .ok (.iconst 2, 1) := by decide +kernel
theorem dL_nailer_22 : decode cL_nailer 22 = .ok (.ireturn, 1) := by decide +kernel
theorem dL_nailer_23 : decode cL_nailer 23 = .ok (.astore 5, 2) := by decide +kernel
theorem dL_nailer_25 : decode cL_nailer 25 = .ok (.iconst 3, 1) := by decide +kernel
theorem dL_nailer_26 : decode cL_nailer 26 = .ok (.ireturn, 1) := by decide +kernel
theorem dL_nailer_27 : decode cL_nailer 27 = .ok (.iconst 0, 1) := by decide +kernel
theorem dL_nailer_28 : decode cL_nailer 28 = .ok (.ireturn, 1) := by decide +kernel
theorem dL_lend_0 : decode cL_lend 0 = .ok (.aload_n 3, 1) := by decide +kernel
theorem dL_lend_1 : decode cL_lend 1 = .ok (.iconst 0, 1) := by decide +kernel
theorem dL_lend_2 : decode cL_lend 2 = .ok (.aload_n 0, 1) := by decide +kernel
theorem dL_lend_3 : decode cL_lend 3 = .ok (.iload_n 1, 1) := by decide +kernel
theorem dL_lend_4 : decode cL_lend 4 = .ok (.iload_n 2, 1) := by decide +kernel
theorem dL_lend_5 : decode cL_lend 5 = .ok (.invokevirtual 19, 3) := by decide +kernel
theorem dL_lend_8 : decode cL_lend 8 = .ok (.i2l, 1) := by decide +kernel
theorem dL_lend_9 : decode cL_lend 9 = .ok (.lastore, 1) := by decide +kernel
theorem dL_lend_10 : decode cL_lend 10 = .ok (.goto 15, 3) := by decide +kernel
theorem dL_lend_13 : decode cL_lend 13 = .ok (.astore 4, 2) := by decide +kernel
theorem dL_lend_15 : decode cL_lend 15 = .ok (.iconst 1, 1) := by decide +kernel
theorem dL_lend_16 : decode cL_lend 16 = .ok (.ireturn, 1) := by decide +kernel
theorem dL_lend_17 : decode cL_lend 17 = .ok (.astore 4, 2) := by decide +kernel
theorem dL_lend_19 : decode cL_lend 19 = .ok (.iconst 2, 1) := by decide +kernel
theorem dL_lend_20 : decode cL_lend 20 = .ok (.ireturn, 1) := by decide +kernel
theorem dL_lend_21 : decode cL_lend 21 = .ok (.astore 4, 2) := by decide +kernel
theorem dL_lend_23 : decode cL_lend 23 = .ok (.iconst 3, 1) := by decide +kernel
theorem dL_lend_24 : decode cL_lend 24 = .ok (.ireturn, 1) := by decide +kernel
theorem dL_lend_25 : decode cL_lend 25 = .ok (.iconst 0, 1) := by decide +kernel
theorem dL_lend_26 : decode cL_lend 26 = .ok (.ireturn, 1) := by decide +kernel
theorem dL_coal_0 : decode cL_coal 0 = .ok (.aload_n 3, 1) := by decide +kernel
theorem dL_coal_1 : decode cL_coal 1 = .ok (.iconst 0, 1) := by decide +kernel
theorem dL_coal_2 : decode cL_coal 2 = .ok (.aload_n 0, 1) := by decide +kernel
theorem dL_coal_3 : decode cL_coal 3 = .ok (.iload_n 1, 1) := by decide +kernel
theorem dL_coal_4 : decode cL_coal 4 = .ok (.iload_n 2, 1) := by decide +kernel
theorem dL_coal_5 : decode cL_coal 5 = .ok (.invokevirtual 23, 3) := by decide +kernel
theorem dL_coal_8 : decode cL_coal 8 = .ok (.i2l, 1) := by decide +kernel
theorem dL_coal_9 : decode cL_coal 9 = .ok (.lastore, 1) := by decide +kernel
theorem dL_coal_10 : decode cL_coal 10 = .ok (.goto 15, 3) := by decide +kernel
theorem dL_coal_13 : decode cL_coal 13 = .ok (.astore 4, 2) := by decide +kernel
theorem dL_coal_15 : decode cL_coal 15 = .ok (.iconst 1, 1) := by decide +kernel
theorem dL_coal_16 : decode cL_coal 16 = .ok (.ireturn, 1) := by decide +kernel
theorem dL_coal_17 : decode cL_coal 17 = .ok (.astore 4, 2) := by decide +kernel
theorem dL_coal_19 : decode cL_coal 19 = .ok (.iconst 2, 1) := by decide +kernel
theorem dL_coal_20 : decode cL_coal 20 = .ok (.ireturn, 1) := by decide +kernel
theorem dL_coal_21 : decode cL_coal 21 = .ok (.astore 4, 2) := by decide +kernel
theorem dL_coal_23 : decode cL_coal 23 = .ok (.iconst 3, 1) := by decide +kernel
theorem dL_coal_24 : decode cL_coal 24 = .ok (.ireturn, 1) := by decide +kernel
theorem dL_coal_25 : decode cL_coal 25 = .ok (.iconst 0, 1) := by decide +kernel
theorem dL_coal_26 : decode cL_coal 26 = .ok (.ireturn, 1) := by decide +kernel
theorem dL_make_0 : decode cL_make 0 = .ok (.aload_n 3, 1) := by decide +kernel
theorem dL_make_1 : decode cL_make 1 = .ok (.iconst 0, 1) := by decide +kernel
theorem dL_make_2 : decode cL_make 2 = .ok (.aload_n 0, 1) := by decide +kernel
theorem dL_make_3 : decode cL_make 3 = .ok (.iload_n 1, 1) := by decide +kernel
theorem dL_make_4 : decode cL_make 4 = .ok (.iload_n 2, 1) := by decide +kernel
theorem dL_make_5 : decode cL_make 5 = .ok (.invokevirtual 26, 3) := by decide +kernel
theorem dL_make_8 : decode cL_make 8 = .ok (.i2l, 1) := by decide +kernel
theorem dL_make_9 : decode cL_make 9 = .ok (.lastore, 1) := by decide +kernel
theorem dL_make_10 : decode cL_make 10 = .ok (.goto 7, 3) := by decide +kernel
theorem dL_make_13 : decode cL_make 13 = .ok (.astore 4, 2) := by decide +kernel
theorem dL_make_15 : decode cL_make 15 = .ok (.iconst 1, 1) := by decide +kernel
theorem dL_make_16 : decode cL_make 16 = .ok (.ireturn, 1) := by decide +kernel
theorem dL_make_17 : decode cL_make 17 = .ok (.iconst 0, 1) := by decide +kernel
theorem dL_make_18 : decode cL_make 18 = .ok (.ireturn, 1) := by decide +kernel
theorem dL_change_0 : decode cL_change 0 = .ok (.aload_n 3, 1) := by decide +kernel
theorem dL_change_1 : decode cL_change 1 = .ok (.iconst 0, 1) := by decide +kernel
theorem dL_change_2 : decode cL_change 2 = .ok (.aload_n 0, 1) := by decide +kernel
theorem dL_change_3 : decode cL_change 3 = .ok (.iload_n 1, 1) := by decide +kernel
theorem dL_change_4 : decode cL_change 4 = .ok (.iload_n 2, 1) := by decide +kernel
theorem dL_change_5 : decode cL_change 5 = .ok (.invokevirtual 29, 3) := by decide +kernel
theorem dL_change_8 : decode cL_change 8 = .ok (.i2l, 1) := by decide +kernel
theorem dL_change_9 : decode cL_change 9 = .ok (.lastore, 1) := by decide +kernel
theorem dL_change_10 : decode cL_change 10 = .ok (.goto 11, 3) := by decide +kernel
theorem dL_change_13 : decode cL_change 13 = .ok (.astore 4, 2) := by decide +kernel
theorem dL_change_15 : decode cL_change 15 = .ok (.iconst 1, 1) := by decide +kernel
theorem dL_change_16 : decode cL_change 16 = .ok (.ireturn, 1) := by decide +kernel
theorem dL_change_17 : decode cL_change 17 = .ok (.astore 4, 2) := by decide +kernel
theorem dL_change_19 : decode cL_change 19 = .ok (.iconst 2, 1) := by decide +kernel
theorem dL_change_20 : decode cL_change 20 = .ok (.ireturn, 1) := by decide +kernel
theorem dL_change_21 : decode cL_change 21 = .ok (.iconst 0, 1) := by decide +kernel
theorem dL_change_22 : decode cL_change 22 = .ok (.ireturn, 1) := by decide +kernel
theorem dL_told_0 : decode cL_told 0 = .ok (.aload_n 3, 1) := by decide +kernel
theorem dL_told_1 : decode cL_told 1 = .ok (.iconst 0, 1) := by decide +kernel
theorem dL_told_2 : decode cL_told 2 = .ok (.aload_n 0, 1) := by decide +kernel
theorem dL_told_3 : decode cL_told 3 = .ok (.iload_n 1, 1) := by decide +kernel
theorem dL_told_4 : decode cL_told 4 = .ok (.iload_n 2, 1) := by decide +kernel
theorem dL_told_5 : decode cL_told 5 = .ok (.invokevirtual 32, 3) := by decide +kernel
theorem dL_told_8 : decode cL_told 8 = .ok (.i2l, 1) := by decide +kernel
theorem dL_told_9 : decode cL_told 9 = .ok (.lastore, 1) := by decide +kernel
theorem dL_told_10 : decode cL_told 10 = .ok (.goto 7, 3) := by decide +kernel
theorem dL_told_13 : decode cL_told 13 = .ok (.astore 4, 2) := by decide +kernel
theorem dL_told_15 : decode cL_told 15 = .ok (.iconst 1, 1) := by decide +kernel
theorem dL_told_16 : decode cL_told 16 = .ok (.ireturn, 1) := by decide +kernel
theorem dL_told_17 : decode cL_told 17 = .ok (.iconst 0, 1) := by decide +kernel
theorem dL_told_18 : decode cL_told 18 = .ok (.ireturn, 1) := by decide +kernel
theorem dL_nails_0 : decode cL_nails 0 = .ok (.aload 4, 2) := by decide +kernel
theorem dL_nails_2 : decode cL_nails 2 = .ok (.iconst 0, 1) := by decide +kernel
theorem dL_nails_3 : decode cL_nails 3 = .ok (.aload_n 0, 1) := by decide +kernel
theorem dL_nails_4 : decode cL_nails 4 = .ok (.iload_n 1, 1) := by decide +kernel
theorem dL_nails_5 : decode cL_nails 5 = .ok (.iload_n 2, 1) := by decide +kernel
theorem dL_nails_6 : decode cL_nails 6 = .ok (.iload_n 3, 1) := by decide +kernel
theorem dL_nails_7 : decode cL_nails 7 = .ok (.invokevirtual 35, 3) := by decide +kernel
theorem dL_nails_10 : decode cL_nails 10 = .ok (.i2l, 1) := by decide +kernel
theorem dL_nails_11 : decode cL_nails 11 = .ok (.lastore, 1) := by decide +kernel
theorem dL_nails_12 : decode cL_nails 12 = .ok (.goto 7, 3) := by decide +kernel
theorem dL_nails_15 : decode cL_nails 15 = .ok (.astore 5, 2) := by decide +kernel
theorem dL_nails_17 : decode cL_nails 17 = .ok (.iconst 1, 1) := by decide +kernel
theorem dL_nails_18 : decode cL_nails 18 = .ok (.ireturn, 1) := by decide +kernel
theorem dL_nails_19 : decode cL_nails 19 = .ok (.iconst 0, 1) := by decide +kernel
theorem dL_nails_20 : decode cL_nails 20 = .ok (.ireturn, 1) := by decide +kernel
theorem dL_keep_0 : decode cL_keep 0 = .ok (.aload_n 3, 1) := by decide +kernel
theorem dL_keep_1 : decode cL_keep 1 = .ok (.iconst 0, 1) := by decide +kernel
theorem dL_keep_2 : decode cL_keep 2 = .ok (.aload_n 0, 1) := by decide +kernel
theorem dL_keep_3 : decode cL_keep 3 = .ok (.iload_n 1, 1) := by decide +kernel
theorem dL_keep_4 : decode cL_keep 4 = .ok (.iload_n 2, 1) := by decide +kernel
theorem dL_keep_5 : decode cL_keep 5 = .ok (.invokevirtual 38, 3) := by decide +kernel
theorem dL_keep_8 : decode cL_keep 8 = .ok (.i2l, 1) := by decide +kernel
theorem dL_keep_9 : decode cL_keep 9 = .ok (.lastore, 1) := by decide +kernel
theorem dL_keep_10 : decode cL_keep 10 = .ok (.goto 11, 3) := by decide +kernel
theorem dL_keep_13 : decode cL_keep 13 = .ok (.astore 4, 2) := by decide +kernel
theorem dL_keep_15 : decode cL_keep 15 = .ok (.iconst 1, 1) := by decide +kernel
theorem dL_keep_16 : decode cL_keep 16 = .ok (.ireturn, 1) := by decide +kernel
theorem dL_keep_17 : decode cL_keep 17 = .ok (.astore 4, 2) := by decide +kernel
theorem dL_keep_19 : decode cL_keep 19 = .ok (.iconst 2, 1) := by decide +kernel
theorem dL_keep_20 : decode cL_keep 20 = .ok (.ireturn, 1) := by decide +kernel
theorem dL_keep_21 : decode cL_keep 21 = .ok (.iconst 0, 1) := by decide +kernel
theorem dL_keep_22 : decode cL_keep 22 = .ok (.ireturn, 1) := by decide +kernel
theorem dL_fogger_0 : decode cL_fogger 0 = .ok (.aload_n 3, 1) := by decide +kernel
theorem dL_fogger_1 : decode cL_fogger 1 = .ok (.iconst 0, 1) := by decide +kernel
theorem dL_fogger_2 : decode cL_fogger 2 = .ok (.aload_n 0, 1) := by decide +kernel
theorem dL_fogger_3 : decode cL_fogger 3 = .ok (.iload_n 1, 1) := by decide +kernel
theorem dL_fogger_4 : decode cL_fogger 4 = .ok (.iload_n 2, 1) := by decide +kernel
theorem dL_fogger_5 : decode cL_fogger 5 = .ok (.invokevirtual 41, 3) := by decide +kernel
theorem dL_fogger_8 : decode cL_fogger 8 = .ok (.i2l, 1) := by decide +kernel
theorem dL_fogger_9 : decode cL_fogger 9 = .ok (.lastore, 1) := by decide +kernel
theorem dL_fogger_10 : decode cL_fogger 10 = .ok (.goto 7, 3) := by decide +kernel
theorem dL_fogger_13 : decode cL_fogger 13 = .ok (.astore 4, 2) := by decide +kernel
theorem dL_fogger_15 : decode cL_fogger 15 = .ok (.iconst 1, 1) := by decide +kernel
theorem dL_fogger_16 : decode cL_fogger 16 = .ok (.ireturn, 1) := by decide +kernel
theorem dL_fogger_17 : decode cL_fogger 17 = .ok (.iconst 0, 1) := by decide +kernel
theorem dL_fogger_18 : decode cL_fogger 18 = .ok (.ireturn, 1) := by decide +kernel
theorem dL_count_0 : decode cL_count 0 = .ok (.aload_n 2, 1) := by decide +kernel
theorem dL_count_1 : decode cL_count 1 = .ok (.iconst 0, 1) := by decide +kernel
theorem dL_count_2 : decode cL_count 2 = .ok (.aload_n 0, 1) := by decide +kernel
theorem dL_count_3 : decode cL_count 3 = .ok (.iload_n 1, 1) := by decide +kernel
theorem dL_count_4 : decode cL_count 4 = .ok (.invokevirtual 44, 3) := by decide +kernel
theorem dL_count_7 : decode cL_count 7 = .ok (.i2l, 1) := by decide +kernel
theorem dL_count_8 : decode cL_count 8 = .ok (.lastore, 1) := by decide +kernel
theorem dL_count_9 : decode cL_count 9 = .ok (.goto 6, 3) := by decide +kernel
theorem dL_count_12 : decode cL_count 12 = .ok (.astore_n 3, 1) := by decide +kernel
theorem dL_count_13 : decode cL_count 13 = .ok (.iconst 1, 1) := by decide +kernel
theorem dL_count_14 : decode cL_count 14 = .ok (.ireturn, 1) := by decide +kernel
theorem dL_count_15 : decode cL_count 15 = .ok (.iconst 0, 1) := by decide +kernel
theorem dL_count_16 : decode cL_count 16 = .ok (.ireturn, 1) := by decide +kernel
theorem dL_pass_0 : decode cL_pass 0 = .ok (.aload_n 2, 1) := by decide +kernel
theorem dL_pass_1 : decode cL_pass 1 = .ok (.iconst 0, 1) := by decide +kernel
theorem dL_pass_2 : decode cL_pass 2 = .ok (.aload_n 0, 1) := by decide +kernel
theorem dL_pass_3 : decode cL_pass 3 = .ok (.iload_n 1, 1) := by decide +kernel
theorem dL_pass_4 : decode cL_pass 4 = .ok (.invokevirtual 48, 3) := by decide +kernel
theorem dL_pass_7 : decode cL_pass 7 = .ok (.i2l, 1) := by decide +kernel
theorem dL_pass_8 : decode cL_pass 8 = .ok (.lastore, 1) := by decide +kernel
theorem dL_pass_9 : decode cL_pass 9 = .ok (.goto 6, 3) := by decide +kernel
theorem dL_pass_12 : decode cL_pass 12 = .ok (.astore_n 3, 1) := by decide +kernel
theorem dL_pass_13 : decode cL_pass 13 = .ok (.iconst 1, 1) := by decide +kernel
theorem dL_pass_14 : decode cL_pass 14 = .ok (.ireturn, 1) := by decide +kernel
theorem dL_pass_15 : decode cL_pass 15 = .ok (.iconst 0, 1) := by decide +kernel
theorem dL_pass_16 : decode cL_pass 16 = .ok (.ireturn, 1) := by decide +kernel
theorem dL_rate_0 : decode cL_rate 0 = .ok (.aload_n 2, 1) := by decide +kernel
theorem dL_rate_1 : decode cL_rate 1 = .ok (.iconst 0, 1) := by decide +kernel
theorem dL_rate_2 : decode cL_rate 2 = .ok (.aload_n 0, 1) := by decide +kernel
theorem dL_rate_3 : decode cL_rate 3 = .ok (.iload_n 1, 1) := by decide +kernel
theorem dL_rate_4 : decode cL_rate 4 = .ok (.invokevirtual 51, 3) := by decide +kernel
theorem dL_rate_7 : decode cL_rate 7 = .ok (.i2l, 1) := by decide +kernel
theorem dL_rate_8 : decode cL_rate 8 = .ok (.lastore, 1) := by decide +kernel
theorem dL_rate_9 : decode cL_rate 9 = .ok (.goto 6, 3) := by decide +kernel
theorem dL_rate_12 : decode cL_rate 12 = .ok (.astore_n 3, 1) := by decide +kernel
theorem dL_rate_13 : decode cL_rate 13 = .ok (.iconst 1, 1) := by decide +kernel
theorem dL_rate_14 : decode cL_rate 14 = .ok (.ireturn, 1) := by decide +kernel
theorem dL_rate_15 : decode cL_rate 15 = .ok (.iconst 0, 1) := by decide +kernel
theorem dL_rate_16 : decode cL_rate 16 = .ok (.ireturn, 1) := by decide +kernel
theorem dL_when_0 : decode cL_when 0 = .ok (.aload_n 3, 1) := by decide +kernel
theorem dL_when_1 : decode cL_when 1 = .ok (.iconst 0, 1) := by decide +kernel
theorem dL_when_2 : decode cL_when 2 = .ok (.aload_n 0, 1) := by decide +kernel
theorem dL_when_3 : decode cL_when 3 = .ok (.iload_n 1, 1) := by decide +kernel
theorem dL_when_4 : decode cL_when 4 = .ok (.iload_n 2, 1) := by decide +kernel
theorem dL_when_5 : decode cL_when 5 = .ok (.invokevirtual 54, 3) := by decide +kernel
theorem dL_when_8 : decode cL_when 8 = .ok (.i2l, 1) := by decide +kernel
theorem dL_when_9 : decode cL_when 9 = .ok (.lastore, 1) := by decide +kernel
theorem dL_when_10 : decode cL_when 10 = .ok (.goto 11, 3) := by decide +kernel
theorem dL_when_13 : decode cL_when 13 = .ok (.astore 4, 2) := by decide +kernel
theorem dL_when_15 : decode cL_when 15 = .ok (.iconst 1, 1) := by decide +kernel
theorem dL_when_16 : decode cL_when 16 = .ok (.ireturn, 1) := by decide +kernel
theorem dL_when_17 : decode cL_when 17 = .ok (.astore 4, 2) := by decide +kernel
theorem dL_when_19 : decode cL_when 19 = .ok (.iconst 2, 1) := by decide +kernel
theorem dL_when_20 : decode cL_when 20 = .ok (.ireturn, 1) := by decide +kernel
theorem dL_when_21 : decode cL_when 21 = .ok (.iconst 0, 1) := by decide +kernel
theorem dL_when_22 : decode cL_when 22 = .ok (.ireturn, 1) := by decide +kernel
theorem dL_foresee_0 : decode cL_foresee 0 = .ok (.aload_n 3, 1) := by decide +kernel
theorem dL_foresee_1 : decode cL_foresee 1 = .ok (.iconst 0, 1) := by decide +kernel
theorem dL_foresee_2 : decode cL_foresee 2 = .ok (.aload_n 0, 1) := by decide +kernel
theorem dL_foresee_3 : decode cL_foresee 3 = .ok (.iload_n 1, 1) := by decide +kernel
theorem dL_foresee_4 : decode cL_foresee 4 = .ok (.iload_n 2, 1) := by decide +kernel
theorem dL_foresee_5 : decode cL_foresee 5 = .ok (.invokevirtual 57, 3) := by decide +kernel
theorem dL_foresee_8 : decode cL_foresee 8 = .ok (.i2l, 1) := by decide +kernel
theorem dL_foresee_9 : decode cL_foresee 9 = .ok (.lastore, 1) := by decide +kernel
theorem dL_foresee_10 : decode cL_foresee 10 = .ok (.goto 11, 3) := by decide +kernel
theorem dL_foresee_13 : decode cL_foresee 13 = .ok (.astore 4, 2) := by decide +kernel
theorem dL_foresee_15 : decode cL_foresee 15 = .ok (.iconst 1, 1) := by decide +kernel
theorem dL_foresee_16 : decode cL_foresee 16 = .ok (.ireturn, 1) := by decide +kernel
theorem dL_foresee_17 : decode cL_foresee 17 = .ok (.astore 4, 2) := by decide +kernel
theorem dL_foresee_19 : decode cL_foresee 19 = .ok (.iconst 2, 1) := by decide +kernel
theorem dL_foresee_20 : decode cL_foresee 20 = .ok (.ireturn, 1) := by decide +kernel
theorem dL_foresee_21 : decode cL_foresee 21 = .ok (.iconst 0, 1) := by decide +kernel
theorem dL_foresee_22 : decode cL_foresee 22 = .ok (.ireturn, 1) := by decide +kernel
theorem dL_advise_0 : decode cL_advise 0 = .ok (.aload_n 3, 1) := by decide +kernel
theorem dL_advise_1 : decode cL_advise 1 = .ok (.iconst 0, 1) := by decide +kernel
theorem dL_advise_2 : decode cL_advise 2 = .ok (.aload_n 0, 1) := by decide +kernel
theorem dL_advise_3 : decode cL_advise 3 = .ok (.iload_n 1, 1) := by decide +kernel
theorem dL_advise_4 : decode cL_advise 4 = .ok (.iload_n 2, 1) := by decide +kernel
theorem dL_advise_5 : decode cL_advise 5 = .ok (.invokevirtual 60, 3) := by decide +kernel
theorem dL_advise_8 : decode cL_advise 8 = .ok (.i2l, 1) := by decide +kernel
theorem dL_advise_9 : decode cL_advise 9 = .ok (.lastore, 1) := by decide +kernel
theorem dL_advise_10 : decode cL_advise 10 = .ok (.goto 11, 3) := by decide +kernel
theorem dL_advise_13 : decode cL_advise 13 = .ok (.astore 4, 2) := by decide +kernel
theorem dL_advise_15 : decode cL_advise 15 = .ok (.iconst 1, 1) := by decide +kernel
theorem dL_advise_16 : decode cL_advise 16 = .ok (.ireturn, 1) := by decide +kernel
theorem dL_advise_17 : decode cL_advise 17 = .ok (.astore 4, 2) := by decide +kernel
theorem dL_advise_19 : decode cL_advise 19 = .ok (.iconst 2, 1) := by decide +kernel
theorem dL_advise_20 : decode cL_advise 20 = .ok (.ireturn, 1) := by decide +kernel
theorem dL_advise_21 : decode cL_advise 21 = .ok (.iconst 0, 1) := by decide +kernel
theorem dL_advise_22 : decode cL_advise 22 = .ok (.ireturn, 1) := by decide +kernel
theorem dL_law_0 : decode cL_law 0 = .ok (.new 8, 3) := by decide +kernel
theorem dL_law_3 : decode cL_law 3 = .ok (.dup, 1) := by decide +kernel
theorem dL_law_4 : decode cL_law 4 = .ok (.invokespecial 63, 3) := by decide +kernel
theorem dL_law_7 : decode cL_law 7 = .ok (.astore_n 1, 1) := by decide +kernel
theorem dL_law_8 : decode cL_law 8 = .ok (.new 64, 3) := by decide +kernel
theorem dL_law_11 : decode cL_law 11 = .ok (.dup, 1) := by decide +kernel
theorem dL_law_12 : decode cL_law 12 = .ok (.invokespecial 66, 3) := by decide +kernel
theorem dL_law_15 : decode cL_law 15 = .ok (.astore_n 2, 1) := by decide +kernel
theorem dL_law_16 : decode cL_law 16 = .ok (.iconst 1, 1) := by decide +kernel
theorem dL_law_17 : decode cL_law 17 = .ok (.newarray .long, 2) := by decide +kernel
theorem dL_law_19 : decode cL_law 19 = .ok (.astore_n 3, 1) := by decide +kernel
theorem dL_law_20 : decode cL_law 20 = .ok (.iconst 0, 1) := by decide +kernel
theorem dL_law_21 : decode cL_law 21 = .ok (.istore 4, 2) := by decide +kernel
theorem dL_law_23 : decode cL_law 23 = .ok (.iload 4, 2) := by decide +kernel
theorem dL_law_25 : decode cL_law 25 = .ok (.aload_n 0, 1) := by decide +kernel
theorem dL_law_26 : decode cL_law 26 = .ok (.arraylength, 1) := by decide +kernel
theorem dL_law_27 : decode cL_law 27 = .ok (.iconst 4, 1) := by decide +kernel
theorem dL_law_28 : decode cL_law 28 = .ok (.isub, 1) := by decide +kernel
theorem dL_law_29 : decode cL_law 29 = .ok (.if_icmp .gt 1177, 3) := by decide +kernel
theorem dL_law_32 : decode cL_law 32 = .ok (.aload_n 0, 1) := by decide +kernel
theorem dL_law_33 : decode cL_law 33 = .ok (.iload 4, 2) := by decide +kernel
theorem dL_law_35 : decode cL_law 35 = .ok (.iaload, 1) := by decide +kernel
theorem dL_law_36 : decode cL_law 36 = .ok (.bipush 31, 2) := by decide +kernel
theorem dL_law_38 : decode cL_law 38 = .ok (.iand, 1) := by decide +kernel
theorem dL_law_39 : decode cL_law 39 = .ok (.tableswitch 1161 0 17 #[85, 165, 233, 301, 369, 437, 505, 585, 653, 721, 777, 833, 889, 957, 1025, 1093, 1106, 1147], 85) := by decide +kernel
theorem dL_law_124 : decode cL_law 124 = .ok (.aload_n 1, 1) := by decide +kernel
theorem dL_law_125 : decode cL_law 125 = .ok (.aload_n 0, 1) := by decide +kernel
theorem dL_law_126 : decode cL_law 126 = .ok (.iload 4, 2) := by decide +kernel
theorem dL_law_128 : decode cL_law 128 = .ok (.iconst 1, 1) := by decide +kernel
theorem dL_law_129 : decode cL_law 129 = .ok (.iadd, 1) := by decide +kernel
theorem dL_law_130 : decode cL_law 130 = .ok (.iaload, 1) := by decide +kernel
theorem dL_law_131 : decode cL_law 131 = .ok (.aload_n 0, 1) := by decide +kernel
theorem dL_law_132 : decode cL_law 132 = .ok (.iload 4, 2) := by decide +kernel
theorem dL_law_134 : decode cL_law 134 = .ok (.iconst 2, 1) := by decide +kernel
theorem dL_law_135 : decode cL_law 135 = .ok (.iadd, 1) := by decide +kernel
theorem dL_law_136 : decode cL_law 136 = .ok (.iaload, 1) := by decide +kernel
theorem dL_law_137 : decode cL_law 137 = .ok (.aload_n 0, 1) := by decide +kernel
theorem dL_law_138 : decode cL_law 138 = .ok (.iload 4, 2) := by decide +kernel
theorem dL_law_140 : decode cL_law 140 = .ok (.iconst 3, 1) := by decide +kernel
theorem dL_law_141 : decode cL_law 141 = .ok (.iadd, 1) := by decide +kernel
theorem dL_law_142 : decode cL_law 142 = .ok (.iaload, 1) := by decide +kernel
theorem dL_law_143 : decode cL_law 143 = .ok (.aload_n 3, 1) := by decide +kernel
theorem dL_law_144 : decode cL_law 144 = .ok (.invokestatic 67, 3) := by decide +kernel
theorem dL_law_147 : decode cL_law 147 = .ok (.istore 5, 2) := by decide +kernel
theorem dL_law_149 : decode cL_law 149 = .ok (.aload_n 2, 1) := by decide +kernel
theorem dL_law_150 : decode cL_law 150 = .ok (.aload_n 0, 1) := by decide +kernel
theorem dL_law_151 : decode cL_law 151 = .ok (.iload 4, 2) := by decide +kernel
theorem dL_law_153 : decode cL_law 153 = .ok (.iconst 1, 1) := by decide +kernel
theorem dL_law_154 : decode cL_law 154 = .ok (.iadd, 1) := by decide +kernel
theorem dL_law_155 : decode cL_law 155 = .ok (.iaload, 1) := by decide +kernel
theorem dL_law_156 : decode cL_law 156 = .ok (.aload_n 0, 1) := by decide +kernel
theorem dL_law_157 : decode cL_law 157 = .ok (.iload 4, 2) := by decide +kernel
theorem dL_law_159 : decode cL_law 159 = .ok (.iconst 2, 1) := by decide +kernel
theorem dL_law_160 : decode cL_law 160 = .ok (.iadd, 1) := by decide +kernel
theorem dL_law_161 : decode cL_law 161 = .ok (.iaload, 1) := by decide +kernel
theorem dL_law_162 : decode cL_law 162 = .ok (.aload_n 0, 1) := by decide +kernel
theorem dL_law_163 : decode cL_law 163 = .ok (.iload 4, 2) := by decide +kernel
theorem dL_law_165 : decode cL_law 165 = .ok (.iconst 3, 1) := by decide +kernel
theorem dL_law_166 : decode cL_law 166 = .ok (.iadd, 1) := by decide +kernel
theorem dL_law_167 : decode cL_law 167 = .ok (.iaload, 1) := by decide +kernel
theorem dL_law_168 : decode cL_law 168 = .ok (.invokevirtual 72, 3) := by decide +kernel
theorem dL_law_171 : decode cL_law 171 = .ok (.istore 6, 2) := by decide +kernel
theorem dL_law_173 : decode cL_law 173 = .ok (.aload_n 2, 1) := by decide +kernel
theorem dL_law_174 : decode cL_law 174 = .ok (.invokevirtual 73, 3) := by decide +kernel
theorem dL_law_177 : decode cL_law 177 = .ok (.iload 5, 2) := by decide +kernel
theorem dL_law_179 : decode cL_law 179 = .ok (.if_icmp .eq 5, 3) := by decide +kernel
theorem dL_law_182 : decode cL_law 182 = .ok (.iconst 0, 1) := by decide +kernel
theorem dL_law_183 : decode cL_law 183 = .ok (.ireturn, 1) := by decide +kernel
theorem dL_law_184 : decode cL_law 184 = .ok (.iload 5, 2) := by decide +kernel
theorem dL_law_186 : decode cL_law 186 = .ok (.ifCond .ne 15, 3) := by decide +kernel
theorem dL_law_189 : decode cL_law 189 = .ok (.aload_n 3, 1) := by decide +kernel
theorem dL_law_190 : decode cL_law 190 = .ok (.iconst 0, 1) := by decide +kernel
theorem dL_law_191 : decode cL_law 191 = .ok (.laload, 1) := by decide +kernel
theorem dL_law_192 : decode cL_law 192 = .ok (.iload 6, 2) := by decide +kernel
theorem dL_law_194 : decode cL_law 194 = .ok (.i2l, 1) := by decide +kernel
theorem dL_law_195 : decode cL_law 195 = .ok (.lcmp, 1) := by decide +kernel
theorem dL_law_196 : decode cL_law 196 = .ok (.ifCond .eq 5, 3) := by decide +kernel
theorem dL_law_199 : decode cL_law 199 = .ok (.iconst 0, 1) := by decide +kernel
theorem dL_law_200 : decode cL_law 200 = .ok (.ireturn, 1) := by decide +kernel
theorem dL_law_201 : decode cL_law 201 = .ok (.goto 999, 3) := by decide +kernel
theorem dL_law_204 : decode cL_law 204 = .ok (.aload_n 1, 1) := by decide +kernel
theorem dL_law_205 : decode cL_law 205 = .ok (.aload_n 0, 1) := by decide +kernel
theorem dL_law_206 : decode cL_law 206 = .ok (.iload 4, 2) := by decide +kernel
theorem dL_law_208 : decode cL_law 208 = .ok (.iconst 1, 1) := by decide +kernel
theorem dL_law_209 : decode cL_law 209 = .ok (.iadd, 1) := by decide +kernel
theorem dL_law_210 : decode cL_law 210 = .ok (.iaload, 1) := by decide +kernel
theorem dL_law_211 : decode cL_law 211 = .ok (.aload_n 0, 1) := by decide +kernel
theorem dL_law_212 : decode cL_law 212 = .ok (.iload 4, 2) := by decide +kernel
theorem dL_law_214 : decode cL_law 214 = .ok (.iconst 2, 1) := by decide +kernel
theorem dL_law_215 : decode cL_law 215 = .ok (.iadd, 1) := by decide +kernel
theorem dL_law_216 : decode cL_law 216 = .ok (.iaload, 1) := by decide +kernel
theorem dL_law_217 : decode cL_law 217 = .ok (.aload_n 3, 1) := by decide +kernel
theorem dL_law_218 : decode cL_law 218 = .ok (.invokestatic 77, 3) := by decide +kernel
theorem dL_law_221 : decode cL_law 221 = .ok (.istore 5, 2) := by decide +kernel
theorem dL_law_223 : decode cL_law 223 = .ok (.aload_n 2, 1) := by decide +kernel
theorem dL_law_224 : decode cL_law 224 = .ok (.aload_n 0, 1) := by decide +kernel
theorem dL_law_225 : decode cL_law 225 = .ok (.iload 4, 2) := by decide +kernel
theorem dL_law_227 : decode cL_law 227 = .ok (.iconst 1, 1) := by decide +kernel
theorem dL_law_228 : decode cL_law 228 = .ok (.iadd, 1) := by decide +kernel
theorem dL_law_229 : decode cL_law 229 = .ok (.iaload, 1) := by decide +kernel
theorem dL_law_230 : decode cL_law 230 = .ok (.aload_n 0, 1) := by decide +kernel
theorem dL_law_231 : decode cL_law 231 = .ok (.iload 4, 2) := by decide +kernel
theorem dL_law_233 : decode cL_law 233 = .ok (.iconst 2, 1) := by decide +kernel
theorem dL_law_234 : decode cL_law 234 = .ok (.iadd, 1) := by decide +kernel
theorem dL_law_235 : decode cL_law 235 = .ok (.iaload, 1) := by decide +kernel
theorem dL_law_236 : decode cL_law 236 = .ok (.invokevirtual 80, 3) := by decide +kernel
theorem dL_law_239 : decode cL_law 239 = .ok (.istore 6, 2) := by decide +kernel
theorem dL_law_241 : decode cL_law 241 = .ok (.aload_n 2, 1) := by decide +kernel
theorem dL_law_242 : decode cL_law 242 = .ok (.invokevirtual 73, 3) := by decide +kernel
theorem dL_law_245 : decode cL_law 245 = .ok (.iload 5, 2) := by decide +kernel
theorem dL_law_247 : decode cL_law 247 = .ok (.if_icmp .eq 5, 3) := by decide +kernel
theorem dL_law_250 : decode cL_law 250 = .ok (.iconst 0, 1) := by decide +kernel
theorem dL_law_251 : decode cL_law 251 = .ok (.ireturn, 1) := by decide +kernel
theorem dL_law_252 : decode cL_law 252 = .ok (.iload 5, 2) := by decide +kernel
theorem dL_law_254 : decode cL_law 254 = .ok (.ifCond .ne 15, 3) := by decide +kernel
theorem dL_law_257 : decode cL_law 257 = .ok (.aload_n 3, 1) := by decide +kernel
theorem dL_law_258 : decode cL_law 258 = .ok (.iconst 0, 1) := by decide +kernel
theorem dL_law_259 : decode cL_law 259 = .ok (.laload, 1) := by decide +kernel
theorem dL_law_260 : decode cL_law 260 = .ok (.iload 6, 2) := by decide +kernel
theorem dL_law_262 : decode cL_law 262 = .ok (.i2l, 1) := by decide +kernel
theorem dL_law_263 : decode cL_law 263 = .ok (.lcmp, 1) := by decide +kernel
theorem dL_law_264 : decode cL_law 264 = .ok (.ifCond .eq 5, 3) := by decide +kernel
theorem dL_law_267 : decode cL_law 267 = .ok (.iconst 0, 1) := by decide +kernel
theorem dL_law_268 : decode cL_law 268 = .ok (.ireturn, 1) := by decide +kernel
theorem dL_law_269 : decode cL_law 269 = .ok (.goto 931, 3) := by decide +kernel
theorem dL_law_272 : decode cL_law 272 = .ok (.aload_n 1, 1) := by decide +kernel
theorem dL_law_273 : decode cL_law 273 = .ok (.aload_n 0, 1) := by decide +kernel
theorem dL_law_274 : decode cL_law 274 = .ok (.iload 4, 2) := by decide +kernel
theorem dL_law_276 : decode cL_law 276 = .ok (.iconst 1, 1) := by decide +kernel
theorem dL_law_277 : decode cL_law 277 = .ok (.iadd, 1) := by decide +kernel
theorem dL_law_278 : decode cL_law 278 = .ok (.iaload, 1) := by decide +kernel
theorem dL_law_279 : decode cL_law 279 = .ok (.aload_n 0, 1) := by decide +kernel
theorem dL_law_280 : decode cL_law 280 = .ok (.iload 4, 2) := by decide +kernel
theorem dL_law_282 : decode cL_law 282 = .ok (.iconst 2, 1) := by decide +kernel
theorem dL_law_283 : decode cL_law 283 = .ok (.iadd, 1) := by decide +kernel
theorem dL_law_284 : decode cL_law 284 = .ok (.iaload, 1) := by decide +kernel
theorem dL_law_285 : decode cL_law 285 = .ok (.aload_n 3, 1) := by decide +kernel
theorem dL_law_286 : decode cL_law 286 = .ok (.invokestatic 81, 3) := by decide +kernel
theorem dL_law_289 : decode cL_law 289 = .ok (.istore 5, 2) := by decide +kernel
theorem dL_law_291 : decode cL_law 291 = .ok (.aload_n 2, 1) := by decide +kernel
theorem dL_law_292 : decode cL_law 292 = .ok (.aload_n 0, 1) := by decide +kernel
theorem dL_law_293 : decode cL_law 293 = .ok (.iload 4, 2) := by decide +kernel
theorem dL_law_295 : decode cL_law 295 = .ok (.iconst 1, 1) := by decide +kernel
theorem dL_law_296 : decode cL_law 296 = .ok (.iadd, 1) := by decide +kernel
theorem dL_law_297 : decode cL_law 297 = .ok (.iaload, 1) := by decide +kernel
theorem dL_law_298 : decode cL_law 298 = .ok (.aload_n 0, 1) := by decide +kernel
theorem dL_law_299 : decode cL_law 299 = .ok (.iload 4, 2) := by decide +kernel
theorem dL_law_301 : decode cL_law 301 = .ok (.iconst 2, 1) := by decide +kernel
theorem dL_law_302 : decode cL_law 302 = .ok (.iadd, 1) := by decide +kernel
theorem dL_law_303 : decode cL_law 303 = .ok (.iaload, 1) := by decide +kernel
theorem dL_law_304 : decode cL_law 304 = .ok (.invokevirtual 83, 3) := by decide +kernel
theorem dL_law_307 : decode cL_law 307 = .ok (.istore 6, 2) := by decide +kernel
theorem dL_law_309 : decode cL_law 309 = .ok (.aload_n 2, 1) := by decide +kernel
theorem dL_law_310 : decode cL_law 310 = .ok (.invokevirtual 73, 3) := by decide +kernel
theorem dL_law_313 : decode cL_law 313 = .ok (.iload 5, 2) := by decide +kernel
theorem dL_law_315 : decode cL_law 315 = .ok (.if_icmp .eq 5, 3) := by decide +kernel
theorem dL_law_318 : decode cL_law 318 = .ok (.iconst 0, 1) := by decide +kernel
theorem dL_law_319 : decode cL_law 319 = .ok (.ireturn, 1) := by decide +kernel
theorem dL_law_320 : decode cL_law 320 = .ok (.iload 5, 2) := by decide +kernel
theorem dL_law_322 : decode cL_law 322 = .ok (.ifCond .ne 15, 3) := by decide +kernel
theorem dL_law_325 : decode cL_law 325 = .ok (.aload_n 3, 1) := by decide +kernel
theorem dL_law_326 : decode cL_law 326 = .ok (.iconst 0, 1) := by decide +kernel
theorem dL_law_327 : decode cL_law 327 = .ok (.laload, 1) := by decide +kernel
theorem dL_law_328 : decode cL_law 328 = .ok (.iload 6, 2) := by decide +kernel
theorem dL_law_330 : decode cL_law 330 = .ok (.i2l, 1) := by decide +kernel
theorem dL_law_331 : decode cL_law 331 = .ok (.lcmp, 1) := by decide +kernel
theorem dL_law_332 : decode cL_law 332 = .ok (.ifCond .eq 5, 3) := by decide +kernel
theorem dL_law_335 : decode cL_law 335 = .ok (.iconst 0, 1) := by decide +kernel
theorem dL_law_336 : decode cL_law 336 = .ok (.ireturn, 1) := by decide +kernel
theorem dL_law_337 : decode cL_law 337 = .ok (.goto 863, 3) := by decide +kernel
theorem dL_law_340 : decode cL_law 340 = .ok (.aload_n 1, 1) := by decide +kernel
theorem dL_law_341 : decode cL_law 341 = .ok (.aload_n 0, 1) := by decide +kernel
theorem dL_law_342 : decode cL_law 342 = .ok (.iload 4, 2) := by decide +kernel
theorem dL_law_344 : decode cL_law 344 = .ok (.iconst 1, 1) := by decide +kernel
theorem dL_law_345 : decode cL_law 345 = .ok (.iadd, 1) := by decide +kernel
theorem dL_law_346 : decode cL_law 346 = .ok (.iaload, 1) := by decide +kernel
theorem dL_law_347 : decode cL_law 347 = .ok (.aload_n 0, 1) := by decide +kernel
theorem dL_law_348 : decode cL_law 348 = .ok (.iload 4, 2) := by decide +kernel
theorem dL_law_350 : decode cL_law 350 = .ok (.iconst 2, 1) := by decide +kernel
theorem dL_law_351 : decode cL_law 351 = .ok (.iadd, 1) := by decide +kernel
theorem dL_law_352 : decode cL_law 352 = .ok (.iaload, 1) := by decide +kernel
theorem dL_law_353 : decode cL_law 353 = .ok (.aload_n 3, 1) := by decide +kernel
theorem dL_law_354 : decode cL_law 354 = .ok (.invokestatic 84, 3) := by decide +kernel
theorem dL_law_357 : decode cL_law 357 = .ok (.istore 5, 2) := by decide +kernel
theorem dL_law_359 : decode cL_law 359 = .ok (.aload_n 2, 1) := by decide +kernel
theorem dL_law_360 : decode cL_law 360 = .ok (.aload_n 0, 1) := by decide +kernel
theorem dL_law_361 : decode cL_law 361 = .ok (.iload 4, 2) := by decide +kernel
theorem dL_law_363 : decode cL_law 363 = .ok (.iconst 1, 1) := by decide +kernel
theorem dL_law_364 : decode cL_law 364 = .ok (.iadd, 1) := by decide +kernel
theorem dL_law_365 : decode cL_law 365 = .ok (.iaload, 1) := by decide +kernel
theorem dL_law_366 : decode cL_law 366 = .ok (.aload_n 0, 1) := by decide +kernel
theorem dL_law_367 : decode cL_law 367 = .ok (.iload 4, 2) := by decide +kernel
theorem dL_law_369 : decode cL_law 369 = .ok (.iconst 2, 1) := by decide +kernel
theorem dL_law_370 : decode cL_law 370 = .ok (.iadd, 1) := by decide +kernel
theorem dL_law_371 : decode cL_law 371 = .ok (.iaload, 1) := by decide +kernel
theorem dL_law_372 : decode cL_law 372 = .ok (.invokevirtual 86, 3) := by decide +kernel
theorem dL_law_375 : decode cL_law 375 = .ok (.istore 6, 2) := by decide +kernel
theorem dL_law_377 : decode cL_law 377 = .ok (.aload_n 2, 1) := by decide +kernel
theorem dL_law_378 : decode cL_law 378 = .ok (.invokevirtual 73, 3) := by decide +kernel
theorem dL_law_381 : decode cL_law 381 = .ok (.iload 5, 2) := by decide +kernel
theorem dL_law_383 : decode cL_law 383 = .ok (.if_icmp .eq 5, 3) := by decide +kernel
theorem dL_law_386 : decode cL_law 386 = .ok (.iconst 0, 1) := by decide +kernel
theorem dL_law_387 : decode cL_law 387 = .ok (.ireturn, 1) := by decide +kernel
theorem dL_law_388 : decode cL_law 388 = .ok (.iload 5, 2) := by decide +kernel
theorem dL_law_390 : decode cL_law 390 = .ok (.ifCond .ne 15, 3) := by decide +kernel
theorem dL_law_393 : decode cL_law 393 = .ok (.aload_n 3, 1) := by decide +kernel
theorem dL_law_394 : decode cL_law 394 = .ok (.iconst 0, 1) := by decide +kernel
theorem dL_law_395 : decode cL_law 395 = .ok (.laload, 1) := by decide +kernel
theorem dL_law_396 : decode cL_law 396 = .ok (.iload 6, 2) := by decide +kernel
theorem dL_law_398 : decode cL_law 398 = .ok (.i2l, 1) := by decide +kernel
theorem dL_law_399 : decode cL_law 399 = .ok (.lcmp, 1) := by decide +kernel
theorem dL_law_400 : decode cL_law 400 = .ok (.ifCond .eq 5, 3) := by decide +kernel
theorem dL_law_403 : decode cL_law 403 = .ok (.iconst 0, 1) := by decide +kernel
theorem dL_law_404 : decode cL_law 404 = .ok (.ireturn, 1) := by decide +kernel
theorem dL_law_405 : decode cL_law 405 = .ok (.goto 795, 3) := by decide +kernel
theorem dL_law_408 : decode cL_law 408 = .ok (.aload_n 1, 1) := by decide +kernel
theorem dL_law_409 : decode cL_law 409 = .ok (.aload_n 0, 1) := by decide +kernel
theorem dL_law_410 : decode cL_law 410 = .ok (.iload 4, 2) := by decide +kernel
theorem dL_law_412 : decode cL_law 412 = .ok (.iconst 1, 1) := by decide +kernel
theorem dL_law_413 : decode cL_law 413 = .ok (.iadd, 1) := by decide +kernel
theorem dL_law_414 : decode cL_law 414 = .ok (.iaload, 1) := by decide +kernel
theorem dL_law_415 : decode cL_law 415 = .ok (.aload_n 0, 1) := by decide +kernel
theorem dL_law_416 : decode cL_law 416 = .ok (.iload 4, 2) := by decide +kernel
theorem dL_law_418 : decode cL_law 418 = .ok (.iconst 2, 1) := by decide +kernel
theorem dL_law_419 : decode cL_law 419 = .ok (.iadd, 1) := by decide +kernel
theorem dL_law_420 : decode cL_law 420 = .ok (.iaload, 1) := by decide +kernel
theorem dL_law_421 : decode cL_law 421 = .ok (.aload_n 3, 1) := by decide +kernel
theorem dL_law_422 : decode cL_law 422 = .ok (.invokestatic 87, 3) := by decide +kernel
theorem dL_law_425 : decode cL_law 425 = .ok (.istore 5, 2) := by decide +kernel
theorem dL_law_427 : decode cL_law 427 = .ok (.aload_n 2, 1) := by decide +kernel
theorem dL_law_428 : decode cL_law 428 = .ok (.aload_n 0, 1) := by decide +kernel
theorem dL_law_429 : decode cL_law 429 = .ok (.iload 4, 2) := by decide +kernel
theorem dL_law_431 : decode cL_law 431 = .ok (.iconst 1, 1) := by decide +kernel
theorem dL_law_432 : decode cL_law 432 = .ok (.iadd, 1) := by decide +kernel
theorem dL_law_433 : decode cL_law 433 = .ok (.iaload, 1) := by decide +kernel
theorem dL_law_434 : decode cL_law 434 = .ok (.aload_n 0, 1) := by decide +kernel
theorem dL_law_435 : decode cL_law 435 = .ok (.iload 4, 2) := by decide +kernel
theorem dL_law_437 : decode cL_law 437 = .ok (.iconst 2, 1) := by decide +kernel
theorem dL_law_438 : decode cL_law 438 = .ok (.iadd, 1) := by decide +kernel
theorem dL_law_439 : decode cL_law 439 = .ok (.iaload, 1) := by decide +kernel
theorem dL_law_440 : decode cL_law 440 = .ok (.invokevirtual 89, 3) := by decide +kernel
theorem dL_law_443 : decode cL_law 443 = .ok (.istore 6, 2) := by decide +kernel
theorem dL_law_445 : decode cL_law 445 = .ok (.aload_n 2, 1) := by decide +kernel
theorem dL_law_446 : decode cL_law 446 = .ok (.invokevirtual 73, 3) := by decide +kernel
theorem dL_law_449 : decode cL_law 449 = .ok (.iload 5, 2) := by decide +kernel
theorem dL_law_451 : decode cL_law 451 = .ok (.if_icmp .eq 5, 3) := by decide +kernel
theorem dL_law_454 : decode cL_law 454 = .ok (.iconst 0, 1) := by decide +kernel
theorem dL_law_455 : decode cL_law 455 = .ok (.ireturn, 1) := by decide +kernel
theorem dL_law_456 : decode cL_law 456 = .ok (.iload 5, 2) := by decide +kernel
theorem dL_law_458 : decode cL_law 458 = .ok (.ifCond .ne 15, 3) := by decide +kernel
theorem dL_law_461 : decode cL_law 461 = .ok (.aload_n 3, 1) := by decide +kernel
theorem dL_law_462 : decode cL_law 462 = .ok (.iconst 0, 1) := by decide +kernel
theorem dL_law_463 : decode cL_law 463 = .ok (.laload, 1) := by decide +kernel
theorem dL_law_464 : decode cL_law 464 = .ok (.iload 6, 2) := by decide +kernel
theorem dL_law_466 : decode cL_law 466 = .ok (.i2l, 1) := by decide +kernel
theorem dL_law_467 : decode cL_law 467 = .ok (.lcmp, 1) := by decide +kernel
theorem dL_law_468 : decode cL_law 468 = .ok (.ifCond .eq 5, 3) := by decide +kernel
theorem dL_law_471 : decode cL_law 471 = .ok (.iconst 0, 1) := by decide +kernel
theorem dL_law_472 : decode cL_law 472 = .ok (.ireturn, 1) := by decide +kernel
theorem dL_law_473 : decode cL_law 473 = .ok (.goto 727, 3) := by decide +kernel
theorem dL_law_476 : decode cL_law 476 = .ok (.aload_n 1, 1) := by decide +kernel
theorem dL_law_477 : decode cL_law 477 = .ok (.aload_n 0, 1) := by decide +kernel
theorem dL_law_478 : decode cL_law 478 = .ok (.iload 4, 2) := by decide +kernel
theorem dL_law_480 : decode cL_law 480 = .ok (.iconst 1, 1) := by decide +kernel
theorem dL_law_481 : decode cL_law 481 = .ok (.iadd, 1) := by decide +kernel
theorem dL_law_482 : decode cL_law 482 = .ok (.iaload, 1) := by decide +kernel
theorem dL_law_483 : decode cL_law 483 = .ok (.aload_n 0, 1) := by decide +kernel
theorem dL_law_484 : decode cL_law 484 = .ok (.iload 4, 2) := by decide +kernel
theorem dL_law_486 : decode cL_law 486 = .ok (.iconst 2, 1) := by decide +kernel
theorem dL_law_487 : decode cL_law 487 = .ok (.iadd, 1) := by decide +kernel
theorem dL_law_488 : decode cL_law 488 = .ok (.iaload, 1) := by decide +kernel
theorem dL_law_489 : decode cL_law 489 = .ok (.aload_n 3, 1) := by decide +kernel
theorem dL_law_490 : decode cL_law 490 = .ok (.invokestatic 90, 3) := by decide +kernel
theorem dL_law_493 : decode cL_law 493 = .ok (.istore 5, 2) := by decide +kernel
theorem dL_law_495 : decode cL_law 495 = .ok (.aload_n 2, 1) := by decide +kernel
theorem dL_law_496 : decode cL_law 496 = .ok (.aload_n 0, 1) := by decide +kernel
theorem dL_law_497 : decode cL_law 497 = .ok (.iload 4, 2) := by decide +kernel
theorem dL_law_499 : decode cL_law 499 = .ok (.iconst 1, 1) := by decide +kernel
theorem dL_law_500 : decode cL_law 500 = .ok (.iadd, 1) := by decide +kernel
theorem dL_law_501 : decode cL_law 501 = .ok (.iaload, 1) := by decide +kernel
theorem dL_law_502 : decode cL_law 502 = .ok (.aload_n 0, 1) := by decide +kernel
theorem dL_law_503 : decode cL_law 503 = .ok (.iload 4, 2) := by decide +kernel
theorem dL_law_505 : decode cL_law 505 = .ok (.iconst 2, 1) := by decide +kernel
theorem dL_law_506 : decode cL_law 506 = .ok (.iadd, 1) := by decide +kernel
theorem dL_law_507 : decode cL_law 507 = .ok (.iaload, 1) := by decide +kernel
theorem dL_law_508 : decode cL_law 508 = .ok (.invokevirtual 92, 3) := by decide +kernel
theorem dL_law_511 : decode cL_law 511 = .ok (.istore 6, 2) := by decide +kernel
theorem dL_law_513 : decode cL_law 513 = .ok (.aload_n 2, 1) := by decide +kernel
theorem dL_law_514 : decode cL_law 514 = .ok (.invokevirtual 73, 3) := by decide +kernel
theorem dL_law_517 : decode cL_law 517 = .ok (.iload 5, 2) := by decide +kernel
theorem dL_law_519 : decode cL_law 519 = .ok (.if_icmp .eq 5, 3) := by decide +kernel
theorem dL_law_522 : decode cL_law 522 = .ok (.iconst 0, 1) := by decide +kernel
theorem dL_law_523 : decode cL_law 523 = .ok (.ireturn, 1) := by decide +kernel
theorem dL_law_524 : decode cL_law 524 = .ok (.iload 5, 2) := by decide +kernel
theorem dL_law_526 : decode cL_law 526 = .ok (.ifCond .ne 15, 3) := by decide +kernel
theorem dL_law_529 : decode cL_law 529 = .ok (.aload_n 3, 1) := by decide +kernel
theorem dL_law_530 : decode cL_law 530 = .ok (.iconst 0, 1) := by decide +kernel
theorem dL_law_531 : decode cL_law 531 = .ok (.laload, 1) := by decide +kernel
theorem dL_law_532 : decode cL_law 532 = .ok (.iload 6, 2) := by decide +kernel
theorem dL_law_534 : decode cL_law 534 = .ok (.i2l, 1) := by decide +kernel
theorem dL_law_535 : decode cL_law 535 = .ok (.lcmp, 1) := by decide +kernel
theorem dL_law_536 : decode cL_law 536 = .ok (.ifCond .eq 5, 3) := by decide +kernel
theorem dL_law_539 : decode cL_law 539 = .ok (.iconst 0, 1) := by decide +kernel
theorem dL_law_540 : decode cL_law 540 = .ok (.ireturn, 1) := by decide +kernel
theorem dL_law_541 : decode cL_law 541 = .ok (.goto 659, 3) := by decide +kernel
theorem dL_law_544 : decode cL_law 544 = .ok (.aload_n 1, 1) := by decide +kernel
theorem dL_law_545 : decode cL_law 545 = .ok (.aload_n 0, 1) := by decide +kernel
theorem dL_law_546 : decode cL_law 546 = .ok (.iload 4, 2) := by decide +kernel
theorem dL_law_548 : decode cL_law 548 = .ok (.iconst 1, 1) := by decide +kernel
theorem dL_law_549 : decode cL_law 549 = .ok (.iadd, 1) := by decide +kernel
theorem dL_law_550 : decode cL_law 550 = .ok (.iaload, 1) := by decide +kernel
theorem dL_law_551 : decode cL_law 551 = .ok (.aload_n 0, 1) := by decide +kernel
theorem dL_law_552 : decode cL_law 552 = .ok (.iload 4, 2) := by decide +kernel
theorem dL_law_554 : decode cL_law 554 = .ok (.iconst 2, 1) := by decide +kernel
theorem dL_law_555 : decode cL_law 555 = .ok (.iadd, 1) := by decide +kernel
theorem dL_law_556 : decode cL_law 556 = .ok (.iaload, 1) := by decide +kernel
theorem dL_law_557 : decode cL_law 557 = .ok (.aload_n 0, 1) := by decide +kernel
theorem dL_law_558 : decode cL_law 558 = .ok (.iload 4, 2) := by decide +kernel
theorem dL_law_560 : decode cL_law 560 = .ok (.iconst 3, 1) := by decide +kernel
theorem dL_law_561 : decode cL_law 561 = .ok (.iadd, 1) := by decide +kernel
theorem dL_law_562 : decode cL_law 562 = .ok (.iaload, 1) := by decide +kernel
theorem dL_law_563 : decode cL_law 563 = .ok (.aload_n 3, 1) := by decide +kernel
theorem dL_law_564 : decode cL_law 564 = .ok (.invokestatic 93, 3) := by decide +kernel
theorem dL_law_567 : decode cL_law 567 = .ok (.istore 5, 2) := by decide +kernel
theorem dL_law_569 : decode cL_law 569 = .ok (.aload_n 2, 1) := by decide +kernel
theorem dL_law_570 : decode cL_law 570 = .ok (.aload_n 0, 1) := by decide +kernel
theorem dL_law_571 : decode cL_law 571 = .ok (.iload 4, 2) := by decide +kernel
theorem dL_law_573 : decode cL_law 573 = .ok (.iconst 1, 1) := by decide +kernel
theorem dL_law_574 : decode cL_law 574 = .ok (.iadd, 1) := by decide +kernel
theorem dL_law_575 : decode cL_law 575 = .ok (.iaload, 1) := by decide +kernel
theorem dL_law_576 : decode cL_law 576 = .ok (.aload_n 0, 1) := by decide +kernel
theorem dL_law_577 : decode cL_law 577 = .ok (.iload 4, 2) := by decide +kernel
theorem dL_law_579 : decode cL_law 579 = .ok (.iconst 2, 1) := by decide +kernel
theorem dL_law_580 : decode cL_law 580 = .ok (.iadd, 1) := by decide +kernel
theorem dL_law_581 : decode cL_law 581 = .ok (.iaload, 1) := by decide +kernel
theorem dL_law_582 : decode cL_law 582 = .ok (.aload_n 0, 1) := by decide +kernel
theorem dL_law_583 : decode cL_law 583 = .ok (.iload 4, 2) := by decide +kernel
theorem dL_law_585 : decode cL_law 585 = .ok (.iconst 3, 1) := by decide +kernel
theorem dL_law_586 : decode cL_law 586 = .ok (.iadd, 1) := by decide +kernel
theorem dL_law_587 : decode cL_law 587 = .ok (.iaload, 1) := by decide +kernel
theorem dL_law_588 : decode cL_law 588 = .ok (.invokevirtual 95, 3) := by decide +kernel
theorem dL_law_591 : decode cL_law 591 = .ok (.istore 6, 2) := by decide +kernel
theorem dL_law_593 : decode cL_law 593 = .ok (.aload_n 2, 1) := by decide +kernel
theorem dL_law_594 : decode cL_law 594 = .ok (.invokevirtual 73, 3) := by decide +kernel
theorem dL_law_597 : decode cL_law 597 = .ok (.iload 5, 2) := by decide +kernel
theorem dL_law_599 : decode cL_law 599 = .ok (.if_icmp .eq 5, 3) := by decide +kernel
theorem dL_law_602 : decode cL_law 602 = .ok (.iconst 0, 1) := by decide +kernel
theorem dL_law_603 : decode cL_law 603 = .ok (.ireturn, 1) := by decide +kernel
theorem dL_law_604 : decode cL_law 604 = .ok (.iload 5, 2) := by decide +kernel
theorem dL_law_606 : decode cL_law 606 = .ok (.ifCond .ne 15, 3) := by decide +kernel
theorem dL_law_609 : decode cL_law 609 = .ok (.aload_n 3, 1) := by decide +kernel
theorem dL_law_610 : decode cL_law 610 = .ok (.iconst 0, 1) := by decide +kernel
theorem dL_law_611 : decode cL_law 611 = .ok (.laload, 1) := by decide +kernel
theorem dL_law_612 : decode cL_law 612 = .ok (.iload 6, 2) := by decide +kernel
theorem dL_law_614 : decode cL_law 614 = .ok (.i2l, 1) := by decide +kernel
theorem dL_law_615 : decode cL_law 615 = .ok (.lcmp, 1) := by decide +kernel
theorem dL_law_616 : decode cL_law 616 = .ok (.ifCond .eq 5, 3) := by decide +kernel
theorem dL_law_619 : decode cL_law 619 = .ok (.iconst 0, 1) := by decide +kernel
theorem dL_law_620 : decode cL_law 620 = .ok (.ireturn, 1) := by decide +kernel
theorem dL_law_621 : decode cL_law 621 = .ok (.goto 579, 3) := by decide +kernel
theorem dL_law_624 : decode cL_law 624 = .ok (.aload_n 1, 1) := by decide +kernel
theorem dL_law_625 : decode cL_law 625 = .ok (.aload_n 0, 1) := by decide +kernel
theorem dL_law_626 : decode cL_law 626 = .ok (.iload 4, 2) := by decide +kernel
theorem dL_law_628 : decode cL_law 628 = .ok (.iconst 1, 1) := by decide +kernel
theorem dL_law_629 : decode cL_law 629 = .ok (.iadd, 1) := by decide +kernel
theorem dL_law_630 : decode cL_law 630 = .ok (.iaload, 1) := by decide +kernel
theorem dL_law_631 : decode cL_law 631 = .ok (.aload_n 0, 1) := by decide +kernel
theorem dL_law_632 : decode cL_law 632 = .ok (.iload 4, 2) := by decide +kernel
theorem dL_law_634 : decode cL_law 634 = .ok (.iconst 2, 1) := by decide +kernel
theorem dL_law_635 : decode cL_law 635 = .ok (.iadd, 1) := by decide +kernel
theorem dL_law_636 : decode cL_law 636 = .ok (.iaload, 1) := by decide +kernel
theorem dL_law_637 : decode cL_law 637 = .ok (.aload_n 3, 1) := by decide +kernel
theorem dL_law_638 : decode cL_law 638 = .ok (.invokestatic 96, 3) := by decide +kernel
theorem dL_law_641 : decode cL_law 641 = .ok (.istore 5, 2) := by decide +kernel
theorem dL_law_643 : decode cL_law 643 = .ok (.aload_n 2, 1) := by decide +kernel
theorem dL_law_644 : decode cL_law 644 = .ok (.aload_n 0, 1) := by decide +kernel
theorem dL_law_645 : decode cL_law 645 = .ok (.iload 4, 2) := by decide +kernel
theorem dL_law_647 : decode cL_law 647 = .ok (.iconst 1, 1) := by decide +kernel
theorem dL_law_648 : decode cL_law 648 = .ok (.iadd, 1) := by decide +kernel
theorem dL_law_649 : decode cL_law 649 = .ok (.iaload, 1) := by decide +kernel
theorem dL_law_650 : decode cL_law 650 = .ok (.aload_n 0, 1) := by decide +kernel
theorem dL_law_651 : decode cL_law 651 = .ok (.iload 4, 2) := by decide +kernel
theorem dL_law_653 : decode cL_law 653 = .ok (.iconst 2, 1) := by decide +kernel
theorem dL_law_654 : decode cL_law 654 = .ok (.iadd, 1) := by decide +kernel
theorem dL_law_655 : decode cL_law 655 = .ok (.iaload, 1) := by decide +kernel
theorem dL_law_656 : decode cL_law 656 = .ok (.invokevirtual 98, 3) := by decide +kernel
theorem dL_law_659 : decode cL_law 659 = .ok (.istore 6, 2) := by decide +kernel
theorem dL_law_661 : decode cL_law 661 = .ok (.aload_n 2, 1) := by decide +kernel
theorem dL_law_662 : decode cL_law 662 = .ok (.invokevirtual 73, 3) := by decide +kernel
theorem dL_law_665 : decode cL_law 665 = .ok (.iload 5, 2) := by decide +kernel
theorem dL_law_667 : decode cL_law 667 = .ok (.if_icmp .eq 5, 3) := by decide +kernel
theorem dL_law_670 : decode cL_law 670 = .ok (.iconst 0, 1) := by decide +kernel
theorem dL_law_671 : decode cL_law 671 = .ok (.ireturn, 1) := by decide +kernel
theorem dL_law_672 : decode cL_law 672 = .ok (.iload 5, 2) := by decide +kernel
theorem dL_law_674 : decode cL_law 674 = .ok (.ifCond .ne 15, 3) := by decide +kernel
theorem dL_law_677 : decode cL_law 677 = .ok (.aload_n 3, 1) := by decide +kernel
theorem dL_law_678 : decode cL_law 678 = .ok (.iconst 0, 1) := by decide +kernel
theorem dL_law_679 : decode cL_law 679 = .ok (.laload, 1) := by decide +kernel
theorem dL_law_680 : decode cL_law 680 = .ok (.iload 6, 2) := by decide +kernel
theorem dL_law_682 : decode cL_law 682 = .ok (.i2l, 1) := by decide +kernel
theorem dL_law_683 : decode cL_law 683 = .ok (.lcmp, 1) := by decide +kernel
theorem dL_law_684 : decode cL_law 684 = .ok (.ifCond .eq 5, 3) := by decide +kernel
theorem dL_law_687 : decode cL_law 687 = .ok (.iconst 0, 1) := by decide +kernel
theorem dL_law_688 : decode cL_law 688 = .ok (.ireturn, 1) := by decide +kernel
theorem dL_law_689 : decode cL_law 689 = .ok (.goto 511, 3) := by decide +kernel
theorem dL_law_692 : decode cL_law 692 = .ok (.aload_n 1, 1) := by decide +kernel
theorem dL_law_693 : decode cL_law 693 = .ok (.aload_n 0, 1) := by decide +kernel
theorem dL_law_694 : decode cL_law 694 = .ok (.iload 4, 2) := by decide +kernel
theorem dL_law_696 : decode cL_law 696 = .ok (.iconst 1, 1) := by decide +kernel
theorem dL_law_697 : decode cL_law 697 = .ok (.iadd, 1) := by decide +kernel
theorem dL_law_698 : decode cL_law 698 = .ok (.iaload, 1) := by decide +kernel
theorem dL_law_699 : decode cL_law 699 = .ok (.aload_n 0, 1) := by decide +kernel
theorem dL_law_700 : decode cL_law 700 = .ok (.iload 4, 2) := by decide +kernel
theorem dL_law_702 : decode cL_law 702 = .ok (.iconst 2, 1) := by decide +kernel
theorem dL_law_703 : decode cL_law 703 = .ok (.iadd, 1) := by decide +kernel
theorem dL_law_704 : decode cL_law 704 = .ok (.iaload, 1) := by decide +kernel
theorem dL_law_705 : decode cL_law 705 = .ok (.aload_n 3, 1) := by decide +kernel
theorem dL_law_706 : decode cL_law 706 = .ok (.invokestatic 99, 3) := by decide +kernel
theorem dL_law_709 : decode cL_law 709 = .ok (.istore 5, 2) := by decide +kernel
theorem dL_law_711 : decode cL_law 711 = .ok (.aload_n 2, 1) := by decide +kernel
theorem dL_law_712 : decode cL_law 712 = .ok (.aload_n 0, 1) := by decide +kernel
theorem dL_law_713 : decode cL_law 713 = .ok (.iload 4, 2) := by decide +kernel
theorem dL_law_715 : decode cL_law 715 = .ok (.iconst 1, 1) := by decide +kernel
theorem dL_law_716 : decode cL_law 716 = .ok (.iadd, 1) := by decide +kernel
theorem dL_law_717 : decode cL_law 717 = .ok (.iaload, 1) := by decide +kernel
theorem dL_law_718 : decode cL_law 718 = .ok (.aload_n 0, 1) := by decide +kernel
theorem dL_law_719 : decode cL_law 719 = .ok (.iload 4, 2) := by decide +kernel
theorem dL_law_721 : decode cL_law 721 = .ok (.iconst 2, 1) := by decide +kernel
theorem dL_law_722 : decode cL_law 722 = .ok (.iadd, 1) := by decide +kernel
theorem dL_law_723 : decode cL_law 723 = .ok (.iaload, 1) := by decide +kernel
theorem dL_law_724 : decode cL_law 724 = .ok (.invokevirtual 101, 3) := by decide +kernel
theorem dL_law_727 : decode cL_law 727 = .ok (.istore 6, 2) := by decide +kernel
theorem dL_law_729 : decode cL_law 729 = .ok (.aload_n 2, 1) := by decide +kernel
theorem dL_law_730 : decode cL_law 730 = .ok (.invokevirtual 73, 3) := by decide +kernel
theorem dL_law_733 : decode cL_law 733 = .ok (.iload 5, 2) := by decide +kernel
theorem dL_law_735 : decode cL_law 735 = .ok (.if_icmp .eq 5, 3) := by decide +kernel
theorem dL_law_738 : decode cL_law 738 = .ok (.iconst 0, 1) := by decide +kernel
theorem dL_law_739 : decode cL_law 739 = .ok (.ireturn, 1) := by decide +kernel
theorem dL_law_740 : decode cL_law 740 = .ok (.iload 5, 2) := by decide +kernel
theorem dL_law_742 : decode cL_law 742 = .ok (.ifCond .ne 15, 3) := by decide +kernel
theorem dL_law_745 : decode cL_law 745 = .ok (.aload_n 3, 1) := by decide +kernel
theorem dL_law_746 : decode cL_law 746 = .ok (.iconst 0, 1) := by decide +kernel
theorem dL_law_747 : decode cL_law 747 = .ok (.laload, 1) := by decide +kernel
theorem dL_law_748 : decode cL_law 748 = .ok (.iload 6, 2) := by decide +kernel
theorem dL_law_750 : decode cL_law 750 = .ok (.i2l, 1) := by decide +kernel
theorem dL_law_751 : decode cL_law 751 = .ok (.lcmp, 1) := by decide +kernel
theorem dL_law_752 : decode cL_law 752 = .ok (.ifCond .eq 5, 3) := by decide +kernel
theorem dL_law_755 : decode cL_law 755 = .ok (.iconst 0, 1) := by decide +kernel
theorem dL_law_756 : decode cL_law 756 = .ok (.ireturn, 1) := by decide +kernel
theorem dL_law_757 : decode cL_law 757 = .ok (.goto 443, 3) := by decide +kernel
theorem dL_law_760 : decode cL_law 760 = .ok (.aload_n 1, 1) := by decide +kernel
theorem dL_law_761 : decode cL_law 761 = .ok (.aload_n 0, 1) := by decide +kernel
theorem dL_law_762 : decode cL_law 762 = .ok (.iload 4, 2) := by decide +kernel
theorem dL_law_764 : decode cL_law 764 = .ok (.iconst 1, 1) := by decide +kernel
theorem dL_law_765 : decode cL_law 765 = .ok (.iadd, 1) := by decide +kernel
theorem dL_law_766 : decode cL_law 766 = .ok (.iaload, 1) := by decide +kernel
theorem dL_law_767 : decode cL_law 767 = .ok (.aload_n 3, 1) := by decide +kernel
theorem dL_law_768 : decode cL_law 768 = .ok (.invokestatic 102, 3) := by decide +kernel
theorem dL_law_771 : decode cL_law 771 = .ok (.istore 5, 2) := by decide +kernel
theorem dL_law_773 : decode cL_law 773 = .ok (.aload_n 2, 1) := by decide +kernel
theorem dL_law_774 : decode cL_law 774 = .ok (.aload_n 0, 1) := by decide +kernel
theorem dL_law_775 : decode cL_law 775 = .ok (.iload 4, 2) := by decide +kernel
theorem dL_law_777 : decode cL_law 777 = .ok (.iconst 1, 1) := by decide +kernel
theorem dL_law_778 : decode cL_law 778 = .ok (.iadd, 1) := by decide +kernel
theorem dL_law_779 : decode cL_law 779 = .ok (.iaload, 1) := by decide +kernel
theorem dL_law_780 : decode cL_law 780 = .ok (.invokevirtual 105, 3) := by decide +kernel
theorem dL_law_783 : decode cL_law 783 = .ok (.istore 6, 2) := by decide +kernel
theorem dL_law_785 : decode cL_law 785 = .ok (.aload_n 2, 1) := by decide +kernel
theorem dL_law_786 : decode cL_law 786 = .ok (.invokevirtual 73, 3) := by decide +kernel
theorem dL_law_789 : decode cL_law 789 = .ok (.iload 5, 2) := by decide +kernel
theorem dL_law_791 : decode cL_law 791 = .ok (.if_icmp .eq 5, 3) := by decide +kernel
theorem dL_law_794 : decode cL_law 794 = .ok (.iconst 0, 1) := by decide +kernel
theorem dL_law_795 : decode cL_law 795 = .ok (.ireturn, 1) := by decide +kernel
theorem dL_law_796 : decode cL_law 796 = .ok (.iload 5, 2) := by decide +kernel
theorem dL_law_798 : decode cL_law 798 = .ok (.ifCond .ne 15, 3) := by decide +kernel
theorem dL_law_801 : decode cL_law 801 = .ok (.aload_n 3, 1) := by decide +kernel
theorem dL_law_802 : decode cL_law 802 = .ok (.iconst 0, 1) := by decide +kernel
theorem dL_law_803 : decode cL_law 803 = .ok (.laload, 1) := by decide +kernel
theorem dL_law_804 : decode cL_law 804 = .ok (.iload 6, 2) := by decide +kernel
theorem dL_law_806 : decode cL_law 806 = .ok (.i2l, 1) := by decide +kernel
theorem dL_law_807 : decode cL_law 807 = .ok (.lcmp, 1) := by decide +kernel
theorem dL_law_808 : decode cL_law 808 = .ok (.ifCond .eq 5, 3) := by decide +kernel
theorem dL_law_811 : decode cL_law 811 = .ok (.iconst 0, 1) := by decide +kernel
theorem dL_law_812 : decode cL_law 812 = .ok (.ireturn, 1) := by decide +kernel
theorem dL_law_813 : decode cL_law 813 = .ok (.goto 387, 3) := by decide +kernel
theorem dL_law_816 : decode cL_law 816 = .ok (.aload_n 1, 1) := by decide +kernel
theorem dL_law_817 : decode cL_law 817 = .ok (.aload_n 0, 1) := by decide +kernel
theorem dL_law_818 : decode cL_law 818 = .ok (.iload 4, 2) := by decide +kernel
theorem dL_law_820 : decode cL_law 820 = .ok (.iconst 1, 1) := by decide +kernel
theorem dL_law_821 : decode cL_law 821 = .ok (.iadd, 1) := by decide +kernel
theorem dL_law_822 : decode cL_law 822 = .ok (.iaload, 1) := by decide +kernel
theorem dL_law_823 : decode cL_law 823 = .ok (.aload_n 3, 1) := by decide +kernel
theorem dL_law_824 : decode cL_law 824 = .ok (.invokestatic 106, 3) := by decide +kernel
theorem dL_law_827 : decode cL_law 827 = .ok (.istore 5, 2) := by decide +kernel
theorem dL_law_829 : decode cL_law 829 = .ok (.aload_n 2, 1) := by decide +kernel
theorem dL_law_830 : decode cL_law 830 = .ok (.aload_n 0, 1) := by decide +kernel
theorem dL_law_831 : decode cL_law 831 = .ok (.iload 4, 2) := by decide +kernel
theorem dL_law_833 : decode cL_law 833 = .ok (.iconst 1, 1) := by decide +kernel
theorem dL_law_834 : decode cL_law 834 = .ok (.iadd, 1) := by decide +kernel
theorem dL_law_835 : decode cL_law 835 = .ok (.iaload, 1) := by decide +kernel
theorem dL_law_836 : decode cL_law 836 = .ok (.invokevirtual 108, 3) := by decide +kernel
theorem dL_law_839 : decode cL_law 839 = .ok (.istore 6, 2) := by decide +kernel
theorem dL_law_841 : decode cL_law 841 = .ok (.aload_n 2, 1) := by decide +kernel
theorem dL_law_842 : decode cL_law 842 = .ok (.invokevirtual 73, 3) := by decide +kernel
theorem dL_law_845 : decode cL_law 845 = .ok (.iload 5, 2) := by decide +kernel
theorem dL_law_847 : decode cL_law 847 = .ok (.if_icmp .eq 5, 3) := by decide +kernel
theorem dL_law_850 : decode cL_law 850 = .ok (.iconst 0, 1) := by decide +kernel
theorem dL_law_851 : decode cL_law 851 = .ok (.ireturn, 1) := by decide +kernel
theorem dL_law_852 : decode cL_law 852 = .ok (.iload 5, 2) := by decide +kernel
theorem dL_law_854 : decode cL_law 854 = .ok (.ifCond .ne 15, 3) := by decide +kernel
theorem dL_law_857 : decode cL_law 857 = .ok (.aload_n 3, 1) := by decide +kernel
theorem dL_law_858 : decode cL_law 858 = .ok (.iconst 0, 1) := by decide +kernel
theorem dL_law_859 : decode cL_law 859 = .ok (.laload, 1) := by decide +kernel
theorem dL_law_860 : decode cL_law 860 = .ok (.iload 6, 2) := by decide +kernel
theorem dL_law_862 : decode cL_law 862 = .ok (.i2l, 1) := by decide +kernel
theorem dL_law_863 : decode cL_law 863 = .ok (.lcmp, 1) := by decide +kernel
theorem dL_law_864 : decode cL_law 864 = .ok (.ifCond .eq 5, 3) := by decide +kernel
theorem dL_law_867 : decode cL_law 867 = .ok (.iconst 0, 1) := by decide +kernel
theorem dL_law_868 : decode cL_law 868 = .ok (.ireturn, 1) := by decide +kernel
theorem dL_law_869 : decode cL_law 869 = .ok (.goto 331, 3) := by decide +kernel
theorem dL_law_872 : decode cL_law 872 = .ok (.aload_n 1, 1) := by decide +kernel
theorem dL_law_873 : decode cL_law 873 = .ok (.aload_n 0, 1) := by decide +kernel
theorem dL_law_874 : decode cL_law 874 = .ok (.iload 4, 2) := by decide +kernel
theorem dL_law_876 : decode cL_law 876 = .ok (.iconst 1, 1) := by decide +kernel
theorem dL_law_877 : decode cL_law 877 = .ok (.iadd, 1) := by decide +kernel
theorem dL_law_878 : decode cL_law 878 = .ok (.iaload, 1) := by decide +kernel
theorem dL_law_879 : decode cL_law 879 = .ok (.aload_n 3, 1) := by decide +kernel
theorem dL_law_880 : decode cL_law 880 = .ok (.invokestatic 109, 3) := by decide +kernel
theorem dL_law_883 : decode cL_law 883 = .ok (.istore 5, 2) := by decide +kernel
theorem dL_law_885 : decode cL_law 885 = .ok (.aload_n 2, 1) := by decide +kernel
theorem dL_law_886 : decode cL_law 886 = .ok (.aload_n 0, 1) := by decide +kernel
theorem dL_law_887 : decode cL_law 887 = .ok (.iload 4, 2) := by decide +kernel
theorem dL_law_889 : decode cL_law 889 = .ok (.iconst 1, 1) := by decide +kernel
theorem dL_law_890 : decode cL_law 890 = .ok (.iadd, 1) := by decide +kernel
theorem dL_law_891 : decode cL_law 891 = .ok (.iaload, 1) := by decide +kernel
theorem dL_law_892 : decode cL_law 892 = .ok (.invokevirtual 111, 3) := by decide +kernel
theorem dL_law_895 : decode cL_law 895 = .ok (.istore 6, 2) := by decide +kernel
theorem dL_law_897 : decode cL_law 897 = .ok (.aload_n 2, 1) := by decide +kernel
theorem dL_law_898 : decode cL_law 898 = .ok (.invokevirtual 73, 3) := by decide +kernel
theorem dL_law_901 : decode cL_law 901 = .ok (.iload 5, 2) := by decide +kernel
theorem dL_law_903 : decode cL_law 903 = .ok (.if_icmp .eq 5, 3) := by decide +kernel
theorem dL_law_906 : decode cL_law 906 = .ok (.iconst 0, 1) := by decide +kernel
theorem dL_law_907 : decode cL_law 907 = .ok (.ireturn, 1) := by decide +kernel
theorem dL_law_908 : decode cL_law 908 = .ok (.iload 5, 2) := by decide +kernel
theorem dL_law_910 : decode cL_law 910 = .ok (.ifCond .ne 15, 3) := by decide +kernel
theorem dL_law_913 : decode cL_law 913 = .ok (.aload_n 3, 1) := by decide +kernel
theorem dL_law_914 : decode cL_law 914 = .ok (.iconst 0, 1) := by decide +kernel
theorem dL_law_915 : decode cL_law 915 = .ok (.laload, 1) := by decide +kernel
theorem dL_law_916 : decode cL_law 916 = .ok (.iload 6, 2) := by decide +kernel
theorem dL_law_918 : decode cL_law 918 = .ok (.i2l, 1) := by decide +kernel
theorem dL_law_919 : decode cL_law 919 = .ok (.lcmp, 1) := by decide +kernel
theorem dL_law_920 : decode cL_law 920 = .ok (.ifCond .eq 5, 3) := by decide +kernel
theorem dL_law_923 : decode cL_law 923 = .ok (.iconst 0, 1) := by decide +kernel
theorem dL_law_924 : decode cL_law 924 = .ok (.ireturn, 1) := by decide +kernel
theorem dL_law_925 : decode cL_law 925 = .ok (.goto 275, 3) := by decide +kernel
theorem dL_law_928 : decode cL_law 928 = .ok (.aload_n 1, 1) := by decide +kernel
theorem dL_law_929 : decode cL_law 929 = .ok (.aload_n 0, 1) := by decide +kernel
theorem dL_law_930 : decode cL_law 930 = .ok (.iload 4, 2) := by decide +kernel
theorem dL_law_932 : decode cL_law 932 = .ok (.iconst 1, 1) := by decide +kernel
theorem dL_law_933 : decode cL_law 933 = .ok (.iadd, 1) := by decide +kernel
theorem dL_law_934 : decode cL_law 934 = .ok (.iaload, 1) := by decide +kernel
theorem dL_law_935 : decode cL_law 935 = .ok (.aload_n 0, 1) := by decide +kernel
theorem dL_law_936 : decode cL_law 936 = .ok (.iload 4, 2) := by decide +kernel
theorem dL_law_938 : decode cL_law 938 = .ok (.iconst 2, 1) := by decide +kernel
theorem dL_law_939 : decode cL_law 939 = .ok (.iadd, 1) := by decide +kernel
theorem dL_law_940 : decode cL_law 940 = .ok (.iaload, 1) := by decide +kernel
theorem dL_law_941 : decode cL_law 941 = .ok (.aload_n 3, 1) := by decide +kernel
theorem dL_law_942 : decode cL_law 942 = .ok (.invokestatic 112, 3) := by decide +kernel
theorem dL_law_945 : decode cL_law 945 = .ok (.istore 5, 2) := by decide +kernel
theorem dL_law_947 : decode cL_law 947 = .ok (.aload_n 2, 1) := by decide +kernel
theorem dL_law_948 : decode cL_law 948 = .ok (.aload_n 0, 1) := by decide +kernel
theorem dL_law_949 : decode cL_law 949 = .ok (.iload 4, 2) := by decide +kernel
theorem dL_law_951 : decode cL_law 951 = .ok (.iconst 1, 1) := by decide +kernel
theorem dL_law_952 : decode cL_law 952 = .ok (.iadd, 1) := by decide +kernel
theorem dL_law_953 : decode cL_law 953 = .ok (.iaload, 1) := by decide +kernel
theorem dL_law_954 : decode cL_law 954 = .ok (.aload_n 0, 1) := by decide +kernel
theorem dL_law_955 : decode cL_law 955 = .ok (.iload 4, 2) := by decide +kernel
theorem dL_law_957 : decode cL_law 957 = .ok (.iconst 2, 1) := by decide +kernel
theorem dL_law_958 : decode cL_law 958 = .ok (.iadd, 1) := by decide +kernel
theorem dL_law_959 : decode cL_law 959 = .ok (.iaload, 1) := by decide +kernel
theorem dL_law_960 : decode cL_law 960 = .ok (.invokevirtual 114, 3) := by decide +kernel
theorem dL_law_963 : decode cL_law 963 = .ok (.istore 6, 2) := by decide +kernel
theorem dL_law_965 : decode cL_law 965 = .ok (.aload_n 2, 1) := by decide +kernel
theorem dL_law_966 : decode cL_law 966 = .ok (.invokevirtual 73, 3) := by decide +kernel
theorem dL_law_969 : decode cL_law 969 = .ok (.iload 5, 2) := by decide +kernel
theorem dL_law_971 : decode cL_law 971 = .ok (.if_icmp .eq 5, 3) := by decide +kernel
theorem dL_law_974 : decode cL_law 974 = .ok (.iconst 0, 1) := by decide +kernel
theorem dL_law_975 : decode cL_law 975 = .ok (.ireturn, 1) := by decide +kernel
theorem dL_law_976 : decode cL_law 976 = .ok (.iload 5, 2) := by decide +kernel
theorem dL_law_978 : decode cL_law 978 = .ok (.ifCond .ne 15, 3) := by decide +kernel
theorem dL_law_981 : decode cL_law 981 = .ok (.aload_n 3, 1) := by decide +kernel
theorem dL_law_982 : decode cL_law 982 = .ok (.iconst 0, 1) := by decide +kernel
theorem dL_law_983 : decode cL_law 983 = .ok (.laload, 1) := by decide +kernel
theorem dL_law_984 : decode cL_law 984 = .ok (.iload 6, 2) := by decide +kernel
theorem dL_law_986 : decode cL_law 986 = .ok (.i2l, 1) := by decide +kernel
theorem dL_law_987 : decode cL_law 987 = .ok (.lcmp, 1) := by decide +kernel
theorem dL_law_988 : decode cL_law 988 = .ok (.ifCond .eq 5, 3) := by decide +kernel
theorem dL_law_991 : decode cL_law 991 = .ok (.iconst 0, 1) := by decide +kernel
theorem dL_law_992 : decode cL_law 992 = .ok (.ireturn, 1) := by decide +kernel
theorem dL_law_993 : decode cL_law 993 = .ok (.goto 207, 3) := by decide +kernel
theorem dL_law_996 : decode cL_law 996 = .ok (.aload_n 1, 1) := by decide +kernel
theorem dL_law_997 : decode cL_law 997 = .ok (.aload_n 0, 1) := by decide +kernel
theorem dL_law_998 : decode cL_law 998 = .ok (.iload 4, 2) := by decide +kernel
theorem dL_law_1000 : decode cL_law 1000 = .ok (.iconst 1, 1) := by decide +kernel
theorem dL_law_1001 : decode cL_law 1001 = .ok (.iadd, 1) := by decide +kernel
theorem dL_law_1002 : decode cL_law 1002 = .ok (.iaload, 1) := by decide +kernel
theorem dL_law_1003 : decode cL_law 1003 = .ok (.aload_n 0, 1) := by decide +kernel
theorem dL_law_1004 : decode cL_law 1004 = .ok (.iload 4, 2) := by decide +kernel
theorem dL_law_1006 : decode cL_law 1006 = .ok (.iconst 2, 1) := by decide +kernel
theorem dL_law_1007 : decode cL_law 1007 = .ok (.iadd, 1) := by decide +kernel
theorem dL_law_1008 : decode cL_law 1008 = .ok (.iaload, 1) := by decide +kernel
theorem dL_law_1009 : decode cL_law 1009 = .ok (.aload_n 3, 1) := by decide +kernel
theorem dL_law_1010 : decode cL_law 1010 = .ok (.invokestatic 115, 3) := by decide +kernel
theorem dL_law_1013 : decode cL_law 1013 = .ok (.istore 5, 2) := by decide +kernel
theorem dL_law_1015 : decode cL_law 1015 = .ok (.aload_n 2, 1) := by decide +kernel
theorem dL_law_1016 : decode cL_law 1016 = .ok (.aload_n 0, 1) := by decide +kernel
theorem dL_law_1017 : decode cL_law 1017 = .ok (.iload 4, 2) := by decide +kernel
theorem dL_law_1019 : decode cL_law 1019 = .ok (.iconst 1, 1) := by decide +kernel
theorem dL_law_1020 : decode cL_law 1020 = .ok (.iadd, 1) := by decide +kernel
theorem dL_law_1021 : decode cL_law 1021 = .ok (.iaload, 1) := by decide +kernel
theorem dL_law_1022 : decode cL_law 1022 = .ok (.aload_n 0, 1) := by decide +kernel
theorem dL_law_1023 : decode cL_law 1023 = .ok (.iload 4, 2) := by decide +kernel
theorem dL_law_1025 : decode cL_law 1025 = .ok (.iconst 2, 1) := by decide +kernel
theorem dL_law_1026 : decode cL_law 1026 = .ok (.iadd, 1) := by decide +kernel
theorem dL_law_1027 : decode cL_law 1027 = .ok (.iaload, 1) := by decide +kernel
theorem dL_law_1028 : decode cL_law 1028 = .ok (.invokevirtual 117, 3) := by decide +kernel
theorem dL_law_1031 : decode cL_law 1031 = .ok (.istore 6, 2) := by decide +kernel
theorem dL_law_1033 : decode cL_law 1033 = .ok (.aload_n 2, 1) := by decide +kernel
theorem dL_law_1034 : decode cL_law 1034 = .ok (.invokevirtual 73, 3) := by decide +kernel
theorem dL_law_1037 : decode cL_law 1037 = .ok (.iload 5, 2) := by decide +kernel
theorem dL_law_1039 : decode cL_law 1039 = .ok (.if_icmp .eq 5, 3) := by decide +kernel
theorem dL_law_1042 : decode cL_law 1042 = .ok (.iconst 0, 1) := by decide +kernel
theorem dL_law_1043 : decode cL_law 1043 = .ok (.ireturn, 1) := by decide +kernel
theorem dL_law_1044 : decode cL_law 1044 = .ok (.iload 5, 2) := by decide +kernel
theorem dL_law_1046 : decode cL_law 1046 = .ok (.ifCond .ne 15, 3) := by decide +kernel
theorem dL_law_1049 : decode cL_law 1049 = .ok (.aload_n 3, 1) := by decide +kernel
theorem dL_law_1050 : decode cL_law 1050 = .ok (.iconst 0, 1) := by decide +kernel
theorem dL_law_1051 : decode cL_law 1051 = .ok (.laload, 1) := by decide +kernel
theorem dL_law_1052 : decode cL_law 1052 = .ok (.iload 6, 2) := by decide +kernel
theorem dL_law_1054 : decode cL_law 1054 = .ok (.i2l, 1) := by decide +kernel
theorem dL_law_1055 : decode cL_law 1055 = .ok (.lcmp, 1) := by decide +kernel
theorem dL_law_1056 : decode cL_law 1056 = .ok (.ifCond .eq 5, 3) := by decide +kernel
theorem dL_law_1059 : decode cL_law 1059 = .ok (.iconst 0, 1) := by decide +kernel
theorem dL_law_1060 : decode cL_law 1060 = .ok (.ireturn, 1) := by decide +kernel
theorem dL_law_1061 : decode cL_law 1061 = .ok (.goto 139, 3) := by decide +kernel
theorem dL_law_1064 : decode cL_law 1064 = .ok (.aload_n 1, 1) := by decide +kernel
theorem dL_law_1065 : decode cL_law 1065 = .ok (.aload_n 0, 1) := by decide +kernel
theorem dL_law_1066 : decode cL_law 1066 = .ok (.iload 4, 2) := by decide +kernel
theorem dL_law_1068 : decode cL_law 1068 = .ok (.iconst 1, 1) := by decide +kernel
theorem dL_law_1069 : decode cL_law 1069 = .ok (.iadd, 1) := by decide +kernel
theorem dL_law_1070 : decode cL_law 1070 = .ok (.iaload, 1) := by decide +kernel
theorem dL_law_1071 : decode cL_law 1071 = .ok (.aload_n 0, 1) := by decide +kernel
theorem dL_law_1072 : decode cL_law 1072 = .ok (.iload 4, 2) := by decide +kernel
theorem dL_law_1074 : decode cL_law 1074 = .ok (.iconst 2, 1) := by decide +kernel
theorem dL_law_1075 : decode cL_law 1075 = .ok (.iadd, 1) := by decide +kernel
theorem dL_law_1076 : decode cL_law 1076 = .ok (.iaload, 1) := by decide +kernel
theorem dL_law_1077 : decode cL_law 1077 = .ok (.aload_n 3, 1) := by decide +kernel
theorem dL_law_1078 : decode cL_law 1078 = .ok (.invokestatic 118, 3) := by decide +kernel
theorem dL_law_1081 : decode cL_law 1081 = .ok (.istore 5, 2) := by decide +kernel
theorem dL_law_1083 : decode cL_law 1083 = .ok (.aload_n 2, 1) := by decide +kernel
theorem dL_law_1084 : decode cL_law 1084 = .ok (.aload_n 0, 1) := by decide +kernel
theorem dL_law_1085 : decode cL_law 1085 = .ok (.iload 4, 2) := by decide +kernel
theorem dL_law_1087 : decode cL_law 1087 = .ok (.iconst 1, 1) := by decide +kernel
theorem dL_law_1088 : decode cL_law 1088 = .ok (.iadd, 1) := by decide +kernel
theorem dL_law_1089 : decode cL_law 1089 = .ok (.iaload, 1) := by decide +kernel
theorem dL_law_1090 : decode cL_law 1090 = .ok (.aload_n 0, 1) := by decide +kernel
theorem dL_law_1091 : decode cL_law 1091 = .ok (.iload 4, 2) := by decide +kernel
theorem dL_law_1093 : decode cL_law 1093 = .ok (.iconst 2, 1) := by decide +kernel
theorem dL_law_1094 : decode cL_law 1094 = .ok (.iadd, 1) := by decide +kernel
theorem dL_law_1095 : decode cL_law 1095 = .ok (.iaload, 1) := by decide +kernel
theorem dL_law_1096 : decode cL_law 1096 = .ok (.invokevirtual 120, 3) := by decide +kernel
theorem dL_law_1099 : decode cL_law 1099 = .ok (.istore 6, 2) := by decide +kernel
theorem dL_law_1101 : decode cL_law 1101 = .ok (.aload_n 2, 1) := by decide +kernel
theorem dL_law_1102 : decode cL_law 1102 = .ok (.invokevirtual 73, 3) := by decide +kernel
theorem dL_law_1105 : decode cL_law 1105 = .ok (.iload 5, 2) := by decide +kernel
theorem dL_law_1107 : decode cL_law 1107 = .ok (.if_icmp .eq 5, 3) := by decide +kernel
theorem dL_law_1110 : decode cL_law 1110 = .ok (.iconst 0, 1) := by decide +kernel
theorem dL_law_1111 : decode cL_law 1111 = .ok (.ireturn, 1) := by decide +kernel
theorem dL_law_1112 : decode cL_law 1112 = .ok (.iload 5, 2) := by decide +kernel
theorem dL_law_1114 : decode cL_law 1114 = .ok (.ifCond .ne 15, 3) := by decide +kernel
theorem dL_law_1117 : decode cL_law 1117 = .ok (.aload_n 3, 1) := by decide +kernel
theorem dL_law_1118 : decode cL_law 1118 = .ok (.iconst 0, 1) := by decide +kernel
theorem dL_law_1119 : decode cL_law 1119 = .ok (.laload, 1) := by decide +kernel
theorem dL_law_1120 : decode cL_law 1120 = .ok (.iload 6, 2) := by decide +kernel
theorem dL_law_1122 : decode cL_law 1122 = .ok (.i2l, 1) := by decide +kernel
theorem dL_law_1123 : decode cL_law 1123 = .ok (.lcmp, 1) := by decide +kernel
theorem dL_law_1124 : decode cL_law 1124 = .ok (.ifCond .eq 5, 3) := by decide +kernel
theorem dL_law_1127 : decode cL_law 1127 = .ok (.iconst 0, 1) := by decide +kernel
theorem dL_law_1128 : decode cL_law 1128 = .ok (.ireturn, 1) := by decide +kernel
theorem dL_law_1129 : decode cL_law 1129 = .ok (.goto 71, 3) := by decide +kernel
theorem dL_law_1132 : decode cL_law 1132 = .ok (.aload_n 1, 1) := by decide +kernel
theorem dL_law_1133 : decode cL_law 1133 = .ok (.invokevirtual 121, 3) := by decide +kernel
theorem dL_law_1136 : decode cL_law 1136 = .ok (.aload_n 2, 1) := by decide +kernel
theorem dL_law_1137 : decode cL_law 1137 = .ok (.invokevirtual 124, 3) := by decide +kernel
theorem dL_law_1140 : decode cL_law 1140 = .ok (.if_icmp .eq 60, 3) := by decide +kernel
theorem dL_law_1143 : decode cL_law 1143 = .ok (.iconst 0, 1) := by decide +kernel
theorem dL_law_1144 : decode cL_law 1144 = .ok (.ireturn, 1) := by decide +kernel
theorem dL_law_1145 : decode cL_law 1145 = .ok (.aload_n 1, 1) := by decide +kernel
theorem dL_law_1146 : decode cL_law 1146 = .ok (.invokevirtual 125, 3) := by decide +kernel
theorem dL_law_1149 : decode cL_law 1149 = .ok (.dstore 5, 2) := by decide +kernel
theorem dL_law_1151 : decode cL_law 1151 = .ok (.aload_n 2, 1) := by decide +kernel
theorem dL_law_1152 : decode cL_law 1152 = .ok (.invokevirtual 129, 3) := by decide +kernel
theorem dL_law_1155 : decode cL_law 1155 = .ok (.dstore 7, 2) := by decide +kernel
theorem dL_law_1157 : decode cL_law 1157 = .ok (.dload 5, 2) := by decide +kernel
theorem dL_law_1159 : decode cL_law 1159 = .ok (.dload 7, 2) := by decide +kernel
theorem dL_law_1161 : decode cL_law 1161 = .ok (.dcmp .l, 1) := by decide +kernel
theorem dL_law_1162 : decode cL_law 1162 = .ok (.ifCond .eq 21, 3) := by decide +kernel
theorem dL_law_1165 : decode cL_law 1165 = .ok (.dload 5, 2) := by decide +kernel
theorem dL_law_1167 : decode cL_law 1167 = .ok (.dload 5, 2) := by decide +kernel
theorem dL_law_1169 : decode cL_law 1169 = .ok (.dcmp .l, 1) := by decide +kernel
theorem dL_law_1170 : decode cL_law 1170 = .ok (.ifCond .eq 11, 3) := by decide +kernel
theorem dL_law_1173 : decode cL_law 1173 = .ok (.dload 7, 2) := by decide +kernel
theorem dL_law_1175 : decode cL_law 1175 = .ok (.dload 7, 2) := by decide +kernel
theorem dL_law_1177 : decode cL_law 1177 = .ok (.dcmp .l, 1) := by decide +kernel
theorem dL_law_1178 : decode cL_law 1178 = .ok (.ifCond .ne 5, 3) := by decide +kernel
theorem dL_law_1181 : decode cL_law 1181 = .ok (.iconst 0, 1) := by decide +kernel
theorem dL_law_1182 : decode cL_law 1182 = .ok (.ireturn, 1) := by decide +kernel
theorem dL_law_1183 : decode cL_law 1183 = .ok (.goto 17, 3) := by decide +kernel
theorem dL_law_1186 : decode cL_law 1186 = .ok (.aload_n 1, 1) := by decide +kernel
theorem dL_law_1187 : decode cL_law 1187 = .ok (.invokevirtual 130, 3) := by decide +kernel
theorem dL_law_1190 : decode cL_law 1190 = .ok (.aload_n 2, 1) := by decide +kernel
theorem dL_law_1191 : decode cL_law 1191 = .ok (.invokevirtual 134, 3) := by decide +kernel
theorem dL_law_1194 : decode cL_law 1194 = .ok (.lcmp, 1) := by decide +kernel
theorem dL_law_1195 : decode cL_law 1195 = .ok (.ifCond .eq 5, 3) := by decide +kernel
theorem dL_law_1198 : decode cL_law 1198 = .ok (.iconst 0, 1) := by decide +kernel
theorem dL_law_1199 : decode cL_law 1199 = .ok (.ireturn, 1) := by decide +kernel
theorem dL_law_1200 : decode cL_law 1200 = .ok (.iinc 4 4, 3) := by decide +kernel
theorem dL_law_1203 : decode cL_law 1203 = .ok (.goto (-1180), 3) := by decide +kernel
theorem dL_law_1206 : decode cL_law 1206 = .ok (.iconst 1, 1) := by decide +kernel
theorem dL_law_1207 : decode cL_law 1207 = .ok (.ireturn, 1) := by decide +kernel
end
section
/-! WHAT THE CLASS'S METHODS DO TO THE ROWS, in the code's own order -/
def imin (a b : Int32) : Int32 := if b < a then b else a
def imax (a b : Int32) : Int32 := if a < b then b else a
def kx (v : Nat → Int32) : Nat := (v 1).toNatClampNeg
theorem ozT_ne (k : Nat) : ¬ ozT k = 0 := by
  unfold ozT
  split
  · decide
  · split
    · decide
    · split <;> decide
def tend (v : Nat → Int32) : Nat → Int32 := if v 6 ≤ 0 then upd v 5 (imax (v 5 - 3) 0) else upd (upd v 6 (v 6 - 1)) 5 (imin (v 5 + 2) 9)
def hfh (v : Nat → Int32) (most : Int32) : (Nat → Int32) × Int32 := (upd v 4 (v 4 - imin most (v 4 / ozT (kx v)) * ozT (kx v)), imin most (v 4 / ozT (kx v)))
def rod (v : Nat → Int32) : Nat → Int32 := upd (upd (upd v 3 (v 3 - 1)) 9 (v 9 + v 4)) 4 240
def hlp : Nat → Int32 → (Nat → Int32) → Int32 → (Nat → Int32) × Int32
  | 0, _, v, hd => (v, hd)
  | n + 1, most, v, hd => if most ≤ hd then (v, hd) else if v 3 ≤ 0 then (v, hd) else hlp n most (hfh (rod v) (most - hd)).1 (hd + (hfh (rod v) (most - hd)).2)
def head (v : Nat → Int32) (most : Int32) : (Nat → Int32) × Int32 := hlp (((hfh v most).1 3).toNatClampNeg + 1) most (hfh v most).1 (hfh v most).2
def sto1 (v : Nat → Int32) (a : Int32) : Nat → Int32 := upd v 11 (v 11 + a)
def sto2 (v : Nat → Int32) (a : Int32) : Nat → Int32 := upd (sto1 v a) (12 + kx (sto1 v a)) (sto1 v a (12 + kx (sto1 v a)) + a)
def sto3 (v : Nat → Int32) (a : Int32) : Nat → Int32 := upd (sto2 v a) (16 + kx (sto2 v a)) (sto2 v a (16 + kx (sto2 v a)) + sto2 v a (12 + kx (sto2 v a)) / 1000)
def store (v : Nat → Int32) (a : Int32) : Nat → Int32 := upd (sto3 v a) (12 + kx (sto3 v a)) (sto3 v a (12 + kx (sto3 v a)) - sto3 v a (12 + kx (sto3 v a)) / 1000 * 1000)
def canN (v : Nat → Int32) : Int32 := v 0 * v 5 * 2 / (v 1 + 1)
def spo (v : Nat → Int32) (a : Int32) : Int32 := if v 5 < 8 then 0 else a / 10
def workB (v : Nat → Int32) : (Nat → Int32) × Int32 :=
  (store (upd (head v (canN v)).1 10 ((head v (canN v)).1 10 + spo (head v (canN v)).1 (head v (canN v)).2)) ((head v (canN v)).2 - spo (head v (canN v)).1 (head v (canN v)).2), (head v (canN v)).2 - spo (head v (canN v)).1 (head v (canN v)).2)
def workH (v : Nat → Int32) : (Nat → Int32) × Int32 := if 4 ≤ tend v 5 then workB (tend v) else (tend v, 0)
def wHl : Nat → Int32 → Int32 → (Nat → Int32) → Int32 → (Nat → Int32) × Int32
  | 0, _, _, v, sm => (v, sm)
  | n + 1, h, i, v, sm => if h ≤ i then (v, sm) else wHl n h (i + 1) (workH v).1 (sm + (workH v).2)
def fuel (h i : Int32) : Nat := (h.toInt - i.toInt).toNat + 1
/-- kinds stay -/
theorem tend_1 (v : Nat → Int32) : tend v 1 = v 1 := by unfold tend; split <;> rfl
theorem hfh_1 (v : Nat → Int32) (a : Int32) : (hfh v a).1 1 = v 1 := rfl
theorem hlp_1 : ∀ (n : Nat) (most : Int32) (v : Nat → Int32) (hd : Int32), (hlp n most v hd).1 1 = v 1
  | 0, _, _, _ => rfl
  | n + 1, most, v, hd => by
    unfold hlp
    split
    · rfl
    · split
      · rfl
      · rw [hlp_1 n]; rfl
theorem head_1 (v : Nat → Int32) (a : Int32) : (head v a).1 1 = v 1 := by unfold head; rw [hlp_1]; rfl
theorem sto1_1 (v : Nat → Int32) (a : Int32) : sto1 v a 1 = v 1 := rfl
theorem sto2_1 (v : Nat → Int32) (a : Int32) : sto2 v a 1 = v 1 := by unfold sto2; rw [upd_ge (by omega)]; rfl
theorem sto3_1 (v : Nat → Int32) (a : Int32) : sto3 v a 1 = v 1 := by unfold sto3; rw [upd_ge (by omega), sto2_1]
theorem store_1 (v : Nat → Int32) (a : Int32) : store v a 1 = v 1 := by unfold store; rw [upd_ge (by omega), sto3_1]
theorem workB_1 (v : Nat → Int32) : (workB v).1 1 = v 1 := by
  simp only [workB, store_1]
  rw [upd_ge (by omega), head_1]
theorem workH_1 (v : Nat → Int32) : (workH v).1 1 = v 1 := by
  unfold workH
  split
  · rw [workB_1, tend_1]
  · exact tend_1 v
/-- counters -/
theorem dec_lt {a : Int32} {n : Nat} (h : a.toNatClampNeg < n + 1) (h0 : ¬ a ≤ 0) : (a - 1).toNatClampNeg < n := by
  obtain ⟨j, hj, rfl⟩ := nI_of (x := a) (fun q => h0 (Int32.le_of_lt q))
  cases j with
  | zero => exact absurd (by rw [nI_0]; exact Int32.le_refl _) h0
  | succ j =>
    rw [nI_pred, nI_clamp (by omega)]
    rw [nI_clamp hj] at h
    omega
theorem fuel_step {h i : Int32} {n : Nat} (hf : fuel h i ≤ n + 1) (hh : ¬ h ≤ i) : fuel h (i + 1) ≤ n := by
  unfold fuel at *
  have h1 : i.toInt < h.toInt := by
    rw [Int32.le_iff_toInt_le] at hh
    omega
  have h2 : (i + 1).toInt = i.toInt + 1 := by
    have a1 := h.toInt_lt
    have a2 := i.le_toInt
    rw [Int32.toInt_add, show (1 : Int32).toInt = 1 from rfl]
    rw [Int.bmod_eq_of_le (by omega) (by omega)]
  rw [h2]
  omega
theorem vk1 {v : Nat → Int32} (hk : vp_in (v 1) 4) : ¬ v 1 + 1 = 0 := by
  obtain ⟨j, hj, e⟩ := vp_in_of hk (by omega)
  rw [e, nI_1]
  exact nI_ne0 (by omega) (by omega)
end
section
/-! THE CLASS NAILER: contracts and walks -/
set_option maxHeartbeats 4000000 in
set_option maxRecDepth 100000 in
theorem c_X1_tendFire {l : Launch} {P : L5} {D : va_G} {j : Nat} (hj : j < 25) {N F T : Nat → Nat → Int32} {K : Nat → Int32} {A : Nat → Nat → Int32} {w : Int64} {v : Nat → Int32} : CtV l yX1_tendFire cX1_tendFire 1 1 0 0 P D 97 97 False (cw P (va_up N j v) F T K A w) (cw P (va_up N j (tend v)) F T K A w) [.ref (rN P j)] := by
  refine mk_Met pl_X1 [(0, .ref (rN P j))] rfl (Nat.le_of_ble_eq_true rfl) ?_
  intro p e s m args below meth c C
  refine v_aload_n C 0 dX1_tendFire_0 rfl ?_
  refine v_gN C hj 6 (by decide) k_46 rfl dX1_tendFire_1 ?_
  refine v_if_le (tgt := 35) C dX1_tendFire_4 (by decide) (fun h4_1 => ?_) (fun h4_1 => ?_)
  · refine v_aload_n C 0 dX1_tendFire_35 rfl ?_
    refine v_aload_n C 0 dX1_tendFire_36 rfl ?_
    refine v_gN C hj 5 (by decide) k_44 rfl dX1_tendFire_37 ?_
    refine v_iconst (v := 3) C dX1_tendFire_40 rfl ?_
    refine v_isub C dX1_tendFire_41 ?_
    refine v_iconst (v := 0) C dX1_tendFire_42 rfl ?_
    refine v_max C dX1_tendFire_43 k_419 k_420 k_12 k_421 (Nat.le_of_ble_eq_true rfl) (Nat.le_of_ble_eq_true rfl) (Nat.le_of_ble_eq_true rfl) (Nat.le_of_ble_eq_true rfl) ?_
    refine v_pN C hj 5 (by decide) k_44 dX1_tendFire_46 ?_
    exact v_vret C dX1_tendFire_49 (by unfold tend; first | (rw [if_pos h4_1]; rfl) | (rw [if_neg h4_1]; rfl))
  · refine v_aload_n C 0 dX1_tendFire_7 rfl ?_
    refine v_dup C dX1_tendFire_8 rfl ?_
    refine v_gN C hj 6 (by decide) k_46 rfl dX1_tendFire_9 ?_
    refine v_iconst (v := 1) C dX1_tendFire_12 rfl ?_
    refine v_isub C dX1_tendFire_13 ?_
    refine v_pN C hj 6 (by decide) k_46 dX1_tendFire_14 ?_
    refine v_aload_n C 0 dX1_tendFire_17 rfl ?_
    refine v_aload_n C 0 dX1_tendFire_18 rfl ?_
    refine v_gN C hj 5 (by decide) k_44 rfl dX1_tendFire_19 ?_
    refine v_iconst (v := 2) C dX1_tendFire_22 rfl ?_
    refine v_iadd C dX1_tendFire_23 ?_
    refine v_bipush (v := 9) C dX1_tendFire_24 rfl ?_
    refine v_min C dX1_tendFire_26 k_416 k_417 k_12 k_418 (Nat.le_of_ble_eq_true rfl) (Nat.le_of_ble_eq_true rfl) (Nat.le_of_ble_eq_true rfl) (Nat.le_of_ble_eq_true rfl) ?_
    refine v_pN C hj 5 (by decide) k_44 dX1_tendFire_29 ?_
    refine v_goto (tgt := 49) C dX1_tendFire_32 (by decide) ?_
    exact v_vret C dX1_tendFire_49 (by unfold tend; first | (rw [if_pos h4_1]; rfl) | (rw [if_neg h4_1]; rfl))
set_option maxHeartbeats 4000000 in
set_option maxRecDepth 100000 in
theorem c_X1_headFromHand {l : Launch} {P : L5} {D : va_G} {j : Nat} (hj : j < 25) {N F T : Nat → Nat → Int32} {K : Nat → Int32} {A : Nat → Nat → Int32} {w : Int64} {v : Nat → Int32} (hk : vp_in (v 1) 4) {most : Int32} : CtI l yX1_headFromHand cX1_headFromHand 3 .int 1 0 0 P D 97 97 False (cw P (va_up N j v) F T K A w) (cw P (va_up N j (hfh v most).1) F T K A w) [.ref (rN P j), .int most] (hfh v most).2 := by
  refine mk_Met pl_X1 [(0, .ref (rN P j)), (1, .int most)] rfl (Nat.le_of_ble_eq_true rfl) ?_
  intro p e s m args below meth c C
  refine v_iload_n C 1 dX1_headFromHand_0 rfl ?_
  refine v_aload_n C 0 dX1_headFromHand_1 rfl ?_
  refine v_gN C hj 4 (by decide) k_43 rfl dX1_headFromHand_2 ?_
  refine v_gSN C 0 rfl (List.mem_of_getElem? (i := 22) rfl) dX1_headFromHand_5 ?_
  refine v_aload_n C 0 dX1_headFromHand_8 rfl ?_
  refine v_gN C hj 1 (by decide) k_36 rfl dX1_headFromHand_9 ?_
  refine v_ldS C 0 rfl hk dX1_headFromHand_12 ?_
  refine v_idiv C dX1_headFromHand_13 (ozT_ne _) ?_
  refine v_min C dX1_headFromHand_14 k_416 k_417 k_12 k_418 (Nat.le_of_ble_eq_true rfl) (Nat.le_of_ble_eq_true rfl) (Nat.le_of_ble_eq_true rfl) (Nat.le_of_ble_eq_true rfl) ?_
  refine v_top (fun x_1 ex_1 => ?_)
  refine v_istore_n (lv' := [(2, .int x_1), (0, .ref (rN P j)), (1, .int most)]) C dX1_headFromHand_17 rfl (by decide) rfl ?_
  refine v_aload_n C 1 dX1_headFromHand_18 rfl ?_
  refine v_dup C dX1_headFromHand_19 rfl ?_
  refine v_gN C hj 4 (by decide) k_43 rfl dX1_headFromHand_20 ?_
  refine v_iload_n C 0 dX1_headFromHand_23 rfl ?_
  refine v_gSN C 0 rfl (List.mem_of_getElem? (i := 22) rfl) dX1_headFromHand_24 ?_
  refine v_aload_n C 1 dX1_headFromHand_27 rfl ?_
  refine v_gN C hj 1 (by decide) k_36 rfl dX1_headFromHand_28 ?_
  refine v_ldS C 0 rfl hk dX1_headFromHand_31 ?_
  refine v_imul C dX1_headFromHand_32 ?_
  refine v_isub C dX1_headFromHand_33 ?_
  refine v_pN C hj 4 (by decide) k_43 dX1_headFromHand_34 ?_
  refine v_iload_n C 0 dX1_headFromHand_37 rfl ?_
  exact v_iret C dX1_headFromHand_38 (by rw [ex_1]; rfl) ex_1
set_option maxHeartbeats 4000000 in
set_option maxRecDepth 100000 in
theorem c_X1_head {l : Launch} {P : L5} {D : va_G} {j : Nat} (hj : j < 25) {N F T : Nat → Nat → Int32} {K : Nat → Int32} {A : Nat → Nat → Int32} {w : Int64} {v : Nat → Int32} (hk : vp_in (v 1) 4) {most : Int32} : CtI l yX1_head cX1_head 3 .int 2 0 0 P D 97 97 False (cw P (va_up N j v) F T K A w) (cw P (va_up N j (head v most).1) F T K A w) [.ref (rN P j), .int most] (head v most).2 := by
  refine mk_Met pl_X1 [(0, .ref (rN P j)), (1, .int most)] rfl (Nat.le_of_ble_eq_true rfl) ?_
  intro p e s m args below meth c C
  refine v_aload_n C 0 dX1_head_0 rfl ?_
  refine v_iload_n C 1 dX1_head_1 rfl ?_
  refine go_I (run_V C (c_X1_headFromHand hj (by exact hk)) k_429 k_3 k_426 k_428 ks_16 dd_X1_headFromHand ⟨Nat.le_of_ble_eq_true rfl, Nat.le_of_ble_eq_true rfl⟩ (rcN hj) rfl (Nat.le_of_ble_eq_true rfl) dX1_head_2 ⟨Nat.le_of_ble_eq_true rfl, Nat.le_of_ble_eq_true rfl⟩) ?_
  refine v_top (fun x_1 ex_1 => ?_)
  refine v_istore_n (lv' := [(2, .int x_1), (0, .ref (rN P j)), (1, .int most)]) C dX1_head_5 rfl (by decide) rfl ?_
  have LOOP : ∀ (n : Nat) (v : Nat → Int32) (hd : Int32), (v 3).toNatClampNeg < n → vp_in (v 1) 4 → V p l e (rmO 2 0 0) s m args below meth c P D (MQ below (QcI P D 97 False (cw P (va_up N j (hlp n most v hd).1) F T K A w) (hlp n most v hd).2) args s 0 0 (aO P)) 3 97 False (cw P (va_up N j v) F T K A w) 0 0 6 [(2, .int hd), (0, .ref (rN P j)), (1, .int most)] [] := by
    intro n
    induction n with
    | zero => intro v hd h9; exact absurd h9 (Nat.not_lt_zero _)
    | succ n ih =>
      intro v hd h9 hk
      refine v_iload_n C 0 dX1_head_6 rfl ?_
      refine v_iload_n C 2 dX1_head_7 rfl ?_
      refine v_icmp_ge (tgt := 61) C dX1_head_8 (by decide) (fun h8_1 => ?_) (fun h8_1 => ?_)
      · refine v_iload_n C 0 dX1_head_61 rfl ?_
        exact v_iret C dX1_head_62 (by rw [hlp, if_pos h8_1]) (by rw [hlp, if_pos h8_1])
      · refine v_aload_n C 1 dX1_head_11 rfl ?_
        refine v_gN C hj 3 (by decide) k_41 rfl dX1_head_12 ?_
        refine v_if_le (tgt := 61) C dX1_head_15 (by decide) (fun h15_1 => ?_) (fun h15_1 => ?_)
        · refine v_iload_n C 0 dX1_head_61 rfl ?_
          exact v_iret C dX1_head_62 (by rw [hlp, if_neg h8_1, if_pos h15_1]) (by rw [hlp, if_neg h8_1, if_pos h15_1])
        · refine v_aload_n C 1 dX1_head_18 rfl ?_
          refine v_dup C dX1_head_19 rfl ?_
          refine v_gN C hj 3 (by decide) k_41 rfl dX1_head_20 ?_
          refine v_iconst (v := 1) C dX1_head_23 rfl ?_
          refine v_isub C dX1_head_24 ?_
          refine v_pN C hj 3 (by decide) k_41 dX1_head_25 ?_
          refine v_aload_n C 1 dX1_head_28 rfl ?_
          refine v_dup C dX1_head_29 rfl ?_
          refine v_gN C hj 9 (by decide) k_54 rfl dX1_head_30 ?_
          refine v_aload_n C 1 dX1_head_33 rfl ?_
          refine v_gN C hj 4 (by decide) k_43 rfl dX1_head_34 ?_
          refine v_iadd C dX1_head_37 ?_
          refine v_pN C hj 9 (by decide) k_54 dX1_head_38 ?_
          refine v_aload_n C 1 dX1_head_41 rfl ?_
          refine v_sipush (v := 240) C dX1_head_42 rfl ?_
          refine v_pN C hj 4 (by decide) k_43 dX1_head_45 ?_
          refine v_iload_n C 0 dX1_head_48 rfl ?_
          refine v_aload_n C 1 dX1_head_49 rfl ?_
          refine v_iload_n C 2 dX1_head_50 rfl ?_
          refine v_iload_n C 0 dX1_head_51 rfl ?_
          refine v_isub C dX1_head_52 ?_
          refine go_I (run_V C (c_X1_headFromHand hj (by exact hk)) k_429 k_3 k_426 k_428 ks_16 dd_X1_headFromHand ⟨Nat.le_of_ble_eq_true rfl, Nat.le_of_ble_eq_true rfl⟩ (rcN hj) rfl (Nat.le_of_ble_eq_true rfl) dX1_head_53 ⟨Nat.le_of_ble_eq_true rfl, Nat.le_of_ble_eq_true rfl⟩) ?_
          refine v_iadd C dX1_head_56 ?_
          refine v_top (fun x_2 ex_2 => ?_)
          refine v_istore_n (lv' := [(2, .int x_2), (0, .ref (rN P j)), (1, .int most)]) C dX1_head_57 rfl (by decide) rfl ?_
          refine v_goto (tgt := 6) C dX1_head_58 (by decide) ?_
          have e9 : hlp (n + 1) most v hd = hlp n most (hfh (rod v) (most - hd)).1 (hd + (hfh (rod v) (most - hd)).2) := by rw [hlp, if_neg h8_1, if_neg h15_1]
          rw [e9]
          subst ex_2
          exact ih _ _ (dec_lt h9 h15_1) hk
  subst ex_1
  exact LOOP _ _ _ (Nat.lt_succ_self _) hk
set_option maxHeartbeats 4000000 in
set_option maxRecDepth 100000 in
theorem c_X1_store {l : Launch} {P : L5} {D : va_G} {j : Nat} (hj : j < 25) {N F T : Nat → Nat → Int32} {K : Nat → Int32} {A : Nat → Nat → Int32} {w : Int64} {v : Nat → Int32} (hk : vp_in (v 1) 4) {a : Int32} : CtV l yX1_store cX1_store 2 1 0 0 P D 97 97 False (cw P (va_up N j v) F T K A w) (cw P (va_up N j (store v a)) F T K A w) [.ref (rN P j), .int a] := by
  refine mk_Met pl_X1 [(0, .ref (rN P j)), (1, .int a)] rfl (Nat.le_of_ble_eq_true rfl) ?_
  intro p e s m args below meth c C
  refine v_aload_n C 0 dX1_store_0 rfl ?_
  refine v_dup C dX1_store_1 rfl ?_
  refine v_gN C hj 11 (by decide) k_56 rfl dX1_store_2 ?_
  refine v_iload_n C 1 dX1_store_5 rfl ?_
  refine v_iadd C dX1_store_6 ?_
  refine v_pN C hj 11 (by decide) k_56 dX1_store_7 ?_
  refine v_aload_n C 0 dX1_store_10 rfl ?_
  refine v_gN C hj 12 (by decide) k_57 rfl dX1_store_11 ?_
  refine v_aload_n C 0 dX1_store_14 rfl ?_
  refine v_gN C hj 1 (by decide) k_36 rfl dX1_store_15 ?_
  refine v_dup2 C dX1_store_18 rfl rfl ?_
  refine v_ldL C hj (show vp_in (sto1 v a 1) 4 by rw [sto1_1]; exact hk) dX1_store_19 ?_
  refine v_iload_n C 1 dX1_store_20 rfl ?_
  refine v_iadd C dX1_store_21 ?_
  refine v_stL C hj (show vp_in (sto1 v a 1) 4 by rw [sto1_1]; exact hk) dX1_store_22 ?_
  refine v_aload_n C 0 dX1_store_23 rfl ?_
  refine v_gN C hj 13 (by decide) k_59 rfl dX1_store_24 ?_
  refine v_aload_n C 0 dX1_store_27 rfl ?_
  refine v_gN C hj 1 (by decide) k_36 rfl dX1_store_28 ?_
  refine v_dup2 C dX1_store_31 rfl rfl ?_
  refine v_ldB C hj (show vp_in (sto2 v a 1) 4 by rw [sto2_1]; exact hk) dX1_store_32 ?_
  refine v_aload_n C 0 dX1_store_33 rfl ?_
  refine v_gN C hj 12 (by decide) k_57 rfl dX1_store_34 ?_
  refine v_aload_n C 0 dX1_store_37 rfl ?_
  refine v_gN C hj 1 (by decide) k_36 rfl dX1_store_38 ?_
  refine v_ldL C hj (show vp_in (sto2 v a 1) 4 by rw [sto2_1]; exact hk) dX1_store_41 ?_
  refine v_sipush (v := 1000) C dX1_store_42 rfl ?_
  refine v_idiv C dX1_store_45 (by decide) ?_
  refine v_iadd C dX1_store_46 ?_
  refine v_stB C hj (show vp_in (sto2 v a 1) 4 by rw [sto2_1]; exact hk) dX1_store_47 ?_
  refine v_aload_n C 0 dX1_store_48 rfl ?_
  refine v_gN C hj 12 (by decide) k_57 rfl dX1_store_49 ?_
  refine v_aload_n C 0 dX1_store_52 rfl ?_
  refine v_gN C hj 1 (by decide) k_36 rfl dX1_store_53 ?_
  refine v_dup2 C dX1_store_56 rfl rfl ?_
  refine v_ldL C hj (show vp_in (sto3 v a 1) 4 by rw [sto3_1]; exact hk) dX1_store_57 ?_
  refine v_sipush (v := 1000) C dX1_store_58 rfl ?_
  refine v_irem C dX1_store_61 (by decide) ?_
  refine v_stL C hj (show vp_in (sto3 v a 1) 4 by rw [sto3_1]; exact hk) dX1_store_62 ?_
  exact v_vret C dX1_store_63 rfl
set_option maxHeartbeats 4000000 in
set_option maxRecDepth 100000 in
theorem c_X1_workHour {l : Launch} {P : L5} {D : va_G} {j : Nat} (hj : j < 25) {N F T : Nat → Nat → Int32} {K : Nat → Int32} {A : Nat → Nat → Int32} {w : Int64} {v : Nat → Int32} (hk : vp_in (v 1) 4) : CtI l yX1_workHour cX1_workHour 3 .int 3 0 0 P D 97 97 False (cw P (va_up N j v) F T K A w) (cw P (va_up N j (workH v).1) F T K A w) [.ref (rN P j)] (workH v).2 := by
  refine mk_Met pl_X1 [(0, .ref (rN P j))] rfl (Nat.le_of_ble_eq_true rfl) ?_
  intro p e s m args below meth c C
  refine v_aload_n C 0 dX1_workHour_0 rfl ?_
  refine go_V (run_V C (c_X1_tendFire hj) k_415 k_3 k_412 k_414 ks_14 dd_X1_tendFire ⟨Nat.le_of_ble_eq_true rfl, Nat.le_of_ble_eq_true rfl⟩ (rcN hj) rfl (Nat.le_of_ble_eq_true rfl) dX1_workHour_1 ⟨Nat.le_of_ble_eq_true rfl, Nat.le_of_ble_eq_true rfl⟩) ?_
  refine v_aload_n C 0 dX1_workHour_4 rfl ?_
  refine v_gN C hj 5 (by decide) k_44 rfl dX1_workHour_5 ?_
  refine v_iconst (v := 4) C dX1_workHour_8 rfl ?_
  refine v_icmp_ge (tgt := 14) C dX1_workHour_9 (by decide) (fun h9_1 => ?_) (fun h9_1 => ?_)
  · refine v_aload_n C 0 dX1_workHour_14 rfl ?_
    refine v_aload_n C 0 dX1_workHour_15 rfl ?_
    refine v_gN C hj 0 (by decide) k_35 rfl dX1_workHour_16 ?_
    refine v_aload_n C 0 dX1_workHour_19 rfl ?_
    refine v_gN C hj 5 (by decide) k_44 rfl dX1_workHour_20 ?_
    refine v_imul C dX1_workHour_23 ?_
    refine v_iconst (v := 2) C dX1_workHour_24 rfl ?_
    refine v_imul C dX1_workHour_25 ?_
    refine v_aload_n C 0 dX1_workHour_26 rfl ?_
    refine v_gN C hj 1 (by decide) k_36 rfl dX1_workHour_27 ?_
    refine v_iconst (v := 1) C dX1_workHour_30 rfl ?_
    refine v_iadd C dX1_workHour_31 ?_
    refine v_idiv C dX1_workHour_32 (vk1 (by rw [tend_1]; exact hk)) ?_
    refine go_I (run_V C (c_X1_head hj (by rw [tend_1]; exact hk)) k_425 k_3 k_422 k_424 ks_15 dd_X1_head ⟨Nat.le_of_ble_eq_true rfl, Nat.le_of_ble_eq_true rfl⟩ (rcN hj) rfl (Nat.le_of_ble_eq_true rfl) dX1_workHour_33 ⟨Nat.le_of_ble_eq_true rfl, Nat.le_of_ble_eq_true rfl⟩) ?_
    refine v_top (fun x_1 ex_1 => ?_)
    refine v_istore_n (lv' := [(1, .int x_1), (0, .ref (rN P j))]) C dX1_workHour_36 rfl (by decide) rfl ?_
    refine v_aload_n C 1 dX1_workHour_37 rfl ?_
    refine v_gN C hj 5 (by decide) k_44 rfl dX1_workHour_38 ?_
    refine v_bipush (v := 8) C dX1_workHour_41 rfl ?_
    refine v_icmp_lt (tgt := 53) C dX1_workHour_43 (by decide) (fun h43_1 => ?_) (fun h43_1 => ?_)
    · refine v_iconst (v := 0) C dX1_workHour_53 rfl ?_
      refine v_istore_n (lv' := [(2, .int 0), (1, .int x_1), (0, .ref (rN P j))]) C dX1_workHour_54 rfl (by decide) rfl ?_
      refine v_aload_n C 2 dX1_workHour_55 rfl ?_
      refine v_dup C dX1_workHour_56 rfl ?_
      refine v_gN C hj 10 (by decide) k_55 rfl dX1_workHour_57 ?_
      refine v_iload_n C 0 dX1_workHour_60 rfl ?_
      refine v_iadd C dX1_workHour_61 ?_
      refine v_pN C hj 10 (by decide) k_55 dX1_workHour_62 ?_
      refine v_aload_n C 2 dX1_workHour_65 rfl ?_
      refine v_iload_n C 1 dX1_workHour_66 rfl ?_
      refine v_iload_n C 0 dX1_workHour_67 rfl ?_
      refine v_isub C dX1_workHour_68 ?_
      refine go_V (run_V C (c_X1_store hj (by rw [upd_ge (by omega), head_1, tend_1]; exact hk)) k_435 k_3 k_432 k_434 ks_17 dd_X1_store ⟨Nat.le_of_ble_eq_true rfl, Nat.le_of_ble_eq_true rfl⟩ (rcN hj) rfl (Nat.le_of_ble_eq_true rfl) dX1_workHour_69 ⟨Nat.le_of_ble_eq_true rfl, Nat.le_of_ble_eq_true rfl⟩) ?_
      refine v_iload_n C 1 dX1_workHour_72 rfl ?_
      refine v_iload_n C 0 dX1_workHour_73 rfl ?_
      refine v_isub C dX1_workHour_74 ?_
      exact v_iret C dX1_workHour_75 (by rw [workH, if_pos h9_1, ex_1]; unfold workB spo; rw [if_pos (by exact h43_1)]; rfl) (by rw [workH, if_pos h9_1, ex_1]; unfold workB spo; rw [if_pos (by exact h43_1)]; rfl)
    · refine v_iload_n C 0 dX1_workHour_46 rfl ?_
      refine v_bipush (v := 10) C dX1_workHour_47 rfl ?_
      refine v_idiv C dX1_workHour_49 (by decide) ?_
      refine v_goto (tgt := 54) C dX1_workHour_50 (by decide) ?_
      refine v_top (fun x_2 ex_2 => ?_)
      refine v_istore_n (lv' := [(2, .int x_2), (1, .int x_1), (0, .ref (rN P j))]) C dX1_workHour_54 rfl (by decide) rfl ?_
      refine v_aload_n C 2 dX1_workHour_55 rfl ?_
      refine v_dup C dX1_workHour_56 rfl ?_
      refine v_gN C hj 10 (by decide) k_55 rfl dX1_workHour_57 ?_
      refine v_iload_n C 0 dX1_workHour_60 rfl ?_
      refine v_iadd C dX1_workHour_61 ?_
      refine v_pN C hj 10 (by decide) k_55 dX1_workHour_62 ?_
      refine v_aload_n C 2 dX1_workHour_65 rfl ?_
      refine v_iload_n C 1 dX1_workHour_66 rfl ?_
      refine v_iload_n C 0 dX1_workHour_67 rfl ?_
      refine v_isub C dX1_workHour_68 ?_
      refine go_V (run_V C (c_X1_store hj (by rw [upd_ge (by omega), head_1, tend_1]; exact hk)) k_435 k_3 k_432 k_434 ks_17 dd_X1_store ⟨Nat.le_of_ble_eq_true rfl, Nat.le_of_ble_eq_true rfl⟩ (rcN hj) rfl (Nat.le_of_ble_eq_true rfl) dX1_workHour_69 ⟨Nat.le_of_ble_eq_true rfl, Nat.le_of_ble_eq_true rfl⟩) ?_
      refine v_iload_n C 1 dX1_workHour_72 rfl ?_
      refine v_iload_n C 0 dX1_workHour_73 rfl ?_
      refine v_isub C dX1_workHour_74 ?_
      exact v_iret C dX1_workHour_75 (by rw [workH, if_pos h9_1, ex_2, ex_1]; unfold workB spo; rw [if_neg (by exact h43_1)]; rfl) (by rw [workH, if_pos h9_1, ex_2, ex_1]; unfold workB spo; rw [if_neg (by exact h43_1)]; rfl)
  · refine v_iconst (v := 0) C dX1_workHour_12 rfl ?_
    exact v_iret C dX1_workHour_13 (by rw [workH, if_neg h9_1]) (by rw [workH, if_neg h9_1])
set_option maxHeartbeats 4000000 in
set_option maxRecDepth 100000 in
theorem c_X1_workHours {l : Launch} {P : L5} {D : va_G} {j : Nat} (hj : j < 25) {N F T : Nat → Nat → Int32} {K : Nat → Int32} {A : Nat → Nat → Int32} {w : Int64} {v : Nat → Int32} (hk : vp_in (v 1) 4) {h : Int32} : CtI l yX1_workHours cX1_workHours 4 .int 4 0 0 P D 97 97 False (cw P (va_up N j v) F T K A w) (cw P (va_up N j (wHl (fuel h 0) h 0 v 0).1) F T K A w) [.ref (rN P j), .int h] (wHl (fuel h 0) h 0 v 0).2 := by
  refine mk_Met pl_X1 [(0, .ref (rN P j)), (1, .int h)] rfl (Nat.le_of_ble_eq_true rfl) ?_
  intro p e s m args below meth c C
  refine v_iconst (v := 0) C dX1_workHours_0 rfl ?_
  refine v_istore_n (lv' := [(2, .int 0), (0, .ref (rN P j)), (1, .int h)]) C dX1_workHours_1 rfl (by decide) rfl ?_
  refine v_iconst (v := 0) C dX1_workHours_2 rfl ?_
  refine v_istore_n (lv' := [(3, .int 0), (2, .int 0), (0, .ref (rN P j)), (1, .int h)]) C dX1_workHours_3 rfl (by decide) rfl ?_
  have LOOP : ∀ (n : Nat) (i : Int32) (v : Nat → Int32) (sm : Int32), fuel h i ≤ n → vp_in (v 1) 4 → V p l e (rmO 4 0 0) s m args below meth c P D (MQ below (QcI P D 97 False (cw P (va_up N j (wHl n h i v sm).1) F T K A w) (wHl n h i v sm).2) args s 0 0 (aO P)) 4 97 False (cw P (va_up N j v) F T K A w) 0 0 4 [(3, .int i), (2, .int sm), (0, .ref (rN P j)), (1, .int h)] [] := by
    intro n
    induction n with
    | zero => intro i v sm h9; exact absurd h9 (by unfold fuel; omega)
    | succ n ih =>
      intro i v sm h9 hk
      refine v_iload_n C 0 dX1_workHours_4 rfl ?_
      refine v_iload_n C 3 dX1_workHours_5 rfl ?_
      refine v_icmp_ge (tgt := 22) C dX1_workHours_6 (by decide) (fun h6_1 => ?_) (fun h6_1 => ?_)
      · refine v_iload_n C 1 dX1_workHours_22 rfl ?_
        exact v_iret C dX1_workHours_23 (by rw [wHl, if_pos h6_1]) (by rw [wHl, if_pos h6_1])
      · refine v_iload_n C 1 dX1_workHours_9 rfl ?_
        refine v_aload_n C 2 dX1_workHours_10 rfl ?_
        refine go_I (run_V C (c_X1_workHour hj (by exact hk)) k_411 k_3 k_470 k_410 ks_13 dd_X1_workHour ⟨Nat.le_of_ble_eq_true rfl, Nat.le_of_ble_eq_true rfl⟩ (rcN hj) rfl (Nat.le_of_ble_eq_true rfl) dX1_workHours_11 ⟨Nat.le_of_ble_eq_true rfl, Nat.le_of_ble_eq_true rfl⟩) ?_
        refine v_iadd C dX1_workHours_14 ?_
        refine v_top (fun x_1 ex_1 => ?_)
        refine v_istore_n (lv' := [(2, .int x_1), (3, .int i), (0, .ref (rN P j)), (1, .int h)]) C dX1_workHours_15 rfl (by decide) rfl ?_
        obtain ⟨x_2, ex_2⟩ : ∃ y : Int32, y = i + 1 := ⟨_, rfl⟩
        refine v_iinc (b := x_2) (lv' := [(3, .int x_2), (2, .int x_1), (0, .ref (rN P j)), (1, .int h)]) C 1 dX1_workHours_16 rfl (by rw [ex_2]; rfl) (by decide) rfl ?_
        refine v_goto (tgt := 4) C dX1_workHours_19 (by decide) ?_
        have e9 : wHl (n + 1) h i v sm = wHl n h (i + 1) (workH v).1 (sm + (workH v).2) := by rw [wHl, if_neg h6_1]
        rw [e9]
        subst ex_1 ex_2
        exact ih _ _ _ (fuel_step h9 h6_1) (by rw [workH_1]; exact hk)
  exact LOOP _ _ _ _ (Nat.le_refl _) hk
end
section
/-! ROWS THAT READ CELLS OF A WORLD WHICH IS NOT TURNED TO THEM; worlds that are alike -/
section VHeap2
variable {p : Program} {l : Launch} {e : Env} {R : Room} {s : State} {m : MethodId} {args : Array Value} {below : List Frame} {meth : Method} {c : Code} {P : L5} {D : va_G} {Q : State → Prop} {nL n : Nat} {x : Prop} {f : Nat → va_E} {k z pc : Nat} {lv : List (Nat × Value)} {st : List Value} {cc : ByteArray} {ret : Option FieldType} {own : String}
variable {N F T : Nat → Nat → Int32} {K : Nat → Int32} {A : Nat → Nat → Int32} {w : Int64}
theorem v_gNu (C : Cx p l s m args meth c P D cc nL ret own) {j : Nat} (hj : j < 25) (kf : Nat) (hk : kf < 14) {index : Nat} (hlink : Cond.fieldLink own index (((RX1, TX1, 14)).2.1 kf).1 (((RX1, TX1, 14)).2.1 kf).2.1 (((RX1, TX1, 14)).2.1 kf).2.2.1 ∈ gtb) {u : Value} (hv : (nF P j (N j))[kf]? = some u) (hdg : decode cc pc = .ok (.getfield index, 3)) (kk : V p l e R s m args below meth c P D Q nL 97 False (cw P N F T K A w) k z (pc + 3) lv (u :: st)) : V p l e R s m args below meth c P D Q nL 97 False (cw P N F T K A w) k z pc lv (.ref (rN P j) :: st) := v_get C (3, j) (kdN j hj) (ci := 1) (r := (RX1, TX1, 14)) rfl rfl inX1g kf hk hlink hv hdg kk
theorem v_gFu (C : Cx p l s m args meth c P D cc nL ret own) {j : Nat} (hj : j < 8) (kf : Nat) (hk : kf < 6) {index : Nat} (hlink : Cond.fieldLink own index (((RX0, TX0, 6)).2.1 kf).1 (((RX0, TX0, 6)).2.1 kf).2.1 (((RX0, TX0, 6)).2.1 kf).2.2.1 ∈ gtb) {u : Value} (hv : (fF (F j))[kf]? = some u) (hdg : decode cc pc = .ok (.getfield index, 3)) (kk : V p l e R s m args below meth c P D Q nL 97 False (cw P N F T K A w) k z (pc + 3) lv (u :: st)) : V p l e R s m args below meth c P D Q nL 97 False (cw P N F T K A w) k z pc lv (.ref (rF P j) :: st) := v_get C (7, j) (kdF j hj) (ci := 0) (r := (RX0, TX0, 6)) rfl rfl inX0g kf hk hlink hv hdg kk
theorem v_gTu (C : Cx p l s m args meth c P D cc nL ret own) {j : Nat} (hj : j < 2) (kf : Nat) (hk : kf < 4) {index : Nat} (hlink : Cond.fieldLink own index (((RX2, TX2, 4)).2.1 kf).1 (((RX2, TX2, 4)).2.1 kf).2.1 (((RX2, TX2, 4)).2.1 kf).2.2.1 ∈ gtb) {u : Value} (hv : (tF P j (T j))[kf]? = some u) (hdg : decode cc pc = .ok (.getfield index, 3)) (kk : V p l e R s m args below meth c P D Q nL 97 False (cw P N F T K A w) k z (pc + 3) lv (u :: st)) : V p l e R s m args below meth c P D Q nL 97 False (cw P N F T K A w) k z pc lv (.ref (rT P j) :: st) := v_get C (1, j) (kdT j hj) (ci := 2) (r := (RX2, TX2, 4)) rfl rfl inX2g kf hk hlink hv hdg kk
theorem v_gNuN (C : Cx p l s m args meth c P D cc nL ret own) {j : Nat} (hj : j < 25) (kf : Nat) (hk : kf < 14) {index : Nat} (hlink : (own, index, (((RX1, TX1, 14)).2.1 kf).1, (((RX1, TX1, 14)).2.1 kf).2.1, (((RX1, TX1, 14)).2.1 kf).2.2.1) ∈ nwF) {u : Value} (hv : (nF P j (N j))[kf]? = some u) (hdg : decode cc pc = .ok (.getfield index, 3)) (kk : V p l e R s m args below meth c P D Q nL 97 False (cw P N F T K A w) k z (pc + 3) lv (u :: st)) : V p l e R s m args below meth c P D Q nL 97 False (cw P N F T K A w) k z pc lv (.ref (rN P j) :: st) := v_getN C (3, j) (kdN j hj) (ci := 1) (r := (RX1, TX1, 14)) rfl rfl inX1g kf hk hlink hv hdg kk
theorem v_gFuN (C : Cx p l s m args meth c P D cc nL ret own) {j : Nat} (hj : j < 8) (kf : Nat) (hk : kf < 6) {index : Nat} (hlink : (own, index, (((RX0, TX0, 6)).2.1 kf).1, (((RX0, TX0, 6)).2.1 kf).2.1, (((RX0, TX0, 6)).2.1 kf).2.2.1) ∈ nwF) {u : Value} (hv : (fF (F j))[kf]? = some u) (hdg : decode cc pc = .ok (.getfield index, 3)) (kk : V p l e R s m args below meth c P D Q nL 97 False (cw P N F T K A w) k z (pc + 3) lv (u :: st)) : V p l e R s m args below meth c P D Q nL 97 False (cw P N F T K A w) k z pc lv (.ref (rF P j) :: st) := v_getN C (7, j) (kdF j hj) (ci := 0) (r := (RX0, TX0, 6)) rfl rfl inX0g kf hk hlink hv hdg kk
theorem v_gTuN (C : Cx p l s m args meth c P D cc nL ret own) {j : Nat} (hj : j < 2) (kf : Nat) (hk : kf < 4) {index : Nat} (hlink : (own, index, (((RX2, TX2, 4)).2.1 kf).1, (((RX2, TX2, 4)).2.1 kf).2.1, (((RX2, TX2, 4)).2.1 kf).2.2.1) ∈ nwF) {u : Value} (hv : (tF P j (T j))[kf]? = some u) (hdg : decode cc pc = .ok (.getfield index, 3)) (kk : V p l e R s m args below meth c P D Q nL 97 False (cw P N F T K A w) k z (pc + 3) lv (u :: st)) : V p l e R s m args below meth c P D Q nL 97 False (cw P N F T K A w) k z pc lv (.ref (rT P j) :: st) := v_getN C (1, j) (kdT j hj) (ci := 2) (r := (RX2, TX2, 4)) rfl rfl inX2g kf hk hlink hv hdg kk
theorem v_topl {a : Int64} (kk : ∀ b : Int64, b = a → V p l e R s m args below meth c P D Q nL n x f k z pc lv (.long b :: st)) : V p l e R s m args below meth c P D Q nL n x f k z pc lv (.long a :: st) := kk a rfl
theorem v_ldLu (C : Cx p l s m args meth c P D cc nL ret own) {j : Nat} (hj : j < 25) {i a : Int32} (hin : vp_in i 4) (ha : N j (12 + i.toNatClampNeg) = a) (hdg : decode cc pc = .ok (.iaload, 1)) (kk : V p l e R s m args below meth c P D Q nL 97 False (cw P N F T K A w) k z (pc + 1) lv (.int a :: st)) : V p l e R s m args below meth c P D Q nL 97 False (cw P N F T K A w) k z pc lv (.int i :: .ref (rL P j) :: st) := v_ldG C (4, j) (kdL j hj) rfl hin ((if_pos (Nat.not_le.mp fun q => hin (Or.inr q))).trans ha) hdg kk
theorem v_ldBu (C : Cx p l s m args meth c P D cc nL ret own) {j : Nat} (hj : j < 25) {i a : Int32} (hin : vp_in i 4) (ha : N j (16 + i.toNatClampNeg) = a) (hdg : decode cc pc = .ok (.iaload, 1)) (kk : V p l e R s m args below meth c P D Q nL 97 False (cw P N F T K A w) k z (pc + 1) lv (.int a :: st)) : V p l e R s m args below meth c P D Q nL 97 False (cw P N F T K A w) k z pc lv (.int i :: .ref (rB P j) :: st) := v_ldG C (5, j) (kdB j hj) rfl hin ((if_pos (Nat.not_le.mp fun q => hin (Or.inr q))).trans ha) hdg kk
theorem v_lenL (C : Cx p l s m args meth c P D cc nL ret own) {j : Nat} (hj : j < 25) {a : Int32} (ha : Int32.ofNat 4 = a) (hdg : decode cc pc = .ok (.arraylength, 1)) (kk : V p l e R s m args below meth c P D Q nL 97 False (cw P N F T K A w) k z (pc + 1) lv (.int a :: st)) : V p l e R s m args below meth c P D Q nL 97 False (cw P N F T K A w) k z pc lv (.ref (rL P j) :: st) := v_lenG C (4, j) (kdL j hj) rfl ha hdg kk
theorem v_lenB (C : Cx p l s m args meth c P D cc nL ret own) {j : Nat} (hj : j < 25) {a : Int32} (ha : Int32.ofNat 4 = a) (hdg : decode cc pc = .ok (.arraylength, 1)) (kk : V p l e R s m args below meth c P D Q nL 97 False (cw P N F T K A w) k z (pc + 1) lv (.int a :: st)) : V p l e R s m args below meth c P D Q nL 97 False (cw P N F T K A w) k z pc lv (.ref (rB P j) :: st) := v_lenG C (5, j) (kdB j hj) rfl ha hdg kk
theorem v_ldLk (C : Cx p l s m args meth c P D cc nL ret own) {j : Nat} {v : Nat → Int32} (t : Nat) (hj : j < 25) {i : Int32} (ht : i.toNatClampNeg = t) (hin : vp_in i 4) (hdg : decode cc pc = .ok (.iaload, 1)) (kk : V p l e R s m args below meth c P D Q nL 97 False (cw P (va_up N j v) F T K A w) k z (pc + 1) lv (.int (v (12 + t)) :: st)) : V p l e R s m args below meth c P D Q nL 97 False (cw P (va_up N j v) F T K A w) k z pc lv (.int i :: .ref (rL P j) :: st) := by subst ht; exact v_ldL C hj hin hdg kk
theorem v_ldBk (C : Cx p l s m args meth c P D cc nL ret own) {j : Nat} {v : Nat → Int32} (t : Nat) (hj : j < 25) {i : Int32} (ht : i.toNatClampNeg = t) (hin : vp_in i 4) (hdg : decode cc pc = .ok (.iaload, 1)) (kk : V p l e R s m args below meth c P D Q nL 97 False (cw P (va_up N j v) F T K A w) k z (pc + 1) lv (.int (v (16 + t)) :: st)) : V p l e R s m args below meth c P D Q nL 97 False (cw P (va_up N j v) F T K A w) k z pc lv (.int i :: .ref (rB P j) :: st) := by subst ht; exact v_ldB C hj hin hdg kk
theorem v_stLk (C : Cx p l s m args meth c P D cc nL ret own) {j : Nat} {v : Nat → Int32} (t : Nat) (hj : j < 25) {i a : Int32} (ht : i.toNatClampNeg = t) (hin : vp_in i 4) (hdg : decode cc pc = .ok (.iastore, 1)) (kk : V p l e R s m args below meth c P D Q nL 97 False (cw P (va_up N j (upd v (12 + t) a)) F T K A w) k z (pc + 1) lv st) : V p l e R s m args below meth c P D Q nL 97 False (cw P (va_up N j v) F T K A w) k z pc lv (.int a :: .int i :: .ref (rL P j) :: st) := by subst ht; exact v_stL C hj hin hdg kk
theorem v_stBk (C : Cx p l s m args meth c P D cc nL ret own) {j : Nat} {v : Nat → Int32} (t : Nat) (hj : j < 25) {i a : Int32} (ht : i.toNatClampNeg = t) (hin : vp_in i 4) (hdg : decode cc pc = .ok (.iastore, 1)) (kk : V p l e R s m args below meth c P D Q nL 97 False (cw P (va_up N j (upd v (16 + t) a)) F T K A w) k z (pc + 1) lv st) : V p l e R s m args below meth c P D Q nL 97 False (cw P (va_up N j v) F T K A w) k z pc lv (.int a :: .int i :: .ref (rB P j) :: st) := by subst ht; exact v_stB C hj hin hdg kk
theorem v_ldSk (C : Cx p l s m args meth c P D cc nL ret own) (b : Nat) {q : String × String × (Nat → Int32)} (hq : stQ[b]? = some q) (t : Nat) {i : Int32} (ht : i.toNatClampNeg = t) (hin : vp_in i 4) {a : Int32} (ha : q.2.2 t = a) (hdg : decode cc pc = .ok (.iaload, 1)) (kk : V p l e R s m args below meth c P D Q nL n x f k z (pc + 1) lv (.int a :: st)) : V p l e R s m args below meth c P D Q nL n x f k z pc lv (.int i :: .ref (rS P b) :: st) := by subst ht; subst ha; exact v_ldS C b hq hin hdg kk
theorem v_ldLuk (C : Cx p l s m args meth c P D cc nL ret own) {j : Nat} (t : Nat) (hj : j < 25) {i a : Int32} (ht : i.toNatClampNeg = t) (hin : vp_in i 4) (ha : N j (12 + t) = a) (hdg : decode cc pc = .ok (.iaload, 1)) (kk : V p l e R s m args below meth c P D Q nL 97 False (cw P N F T K A w) k z (pc + 1) lv (.int a :: st)) : V p l e R s m args below meth c P D Q nL 97 False (cw P N F T K A w) k z pc lv (.int i :: .ref (rL P j) :: st) := by subst ht; exact v_ldLu C hj hin ha hdg kk
theorem v_ldBuk (C : Cx p l s m args meth c P D cc nL ret own) {j : Nat} (t : Nat) (hj : j < 25) {i a : Int32} (ht : i.toNatClampNeg = t) (hin : vp_in i 4) (ha : N j (16 + t) = a) (hdg : decode cc pc = .ok (.iaload, 1)) (kk : V p l e R s m args below meth c P D Q nL 97 False (cw P N F T K A w) k z (pc + 1) lv (.int a :: st)) : V p l e R s m args below meth c P D Q nL 97 False (cw P N F T K A w) k z pc lv (.int i :: .ref (rB P j) :: st) := by subst ht; exact v_ldBu C hj hin ha hdg kk
theorem cw_cN {j : Nat} {a b : Nat → Int32} (h : ∀ k, k < 20 → a k = b k) : cw P (va_up N j a) F T K A w = cw P (va_up N j b) F T K A w := by
  funext q
  exact cK_frN up_off (Or.inr fun t ht => by rw [va_up_self, va_up_self]; exact h t (by omega)) (Or.inr fun t ht => by rw [va_up_self, va_up_self]; exact h _ (by omega)) (Or.inr fun t ht => by rw [va_up_self, va_up_self]; exact h _ (by omega))
theorem cw_cF {j : Nat} {a b : Nat → Int32} (h : ∀ k, k < 6 → a k = b k) : cw P N (va_up F j a) T K A w = cw P N (va_up F j b) T K A w := by
  funext q
  show cK _ _ _ _ _ _ _ _ = cK _ _ _ _ _ _ _ _
  by_cases h9 : kd q = (7, j)
  · rw [h9, cK7, cK7]
    simp only [fF, h 0 (by omega), h 1 (by omega), h 2 (by omega), h 3 (by omega), h 4 (by omega), h 5 (by omega)]
  · exact cK_frF up_off h9
theorem cw_cT {j : Nat} {a b : Nat → Int32} (h : ∀ k, k < 2 → a k = b k) : cw P N F (va_up T j a) K A w = cw P N F (va_up T j b) K A w := by
  funext q
  show cK _ _ _ _ _ _ _ _ = cK _ _ _ _ _ _ _ _
  by_cases h9 : kd q = (1, j)
  · rw [h9, cK1, cK1]
    simp only [tF, h 0 (by omega), h 1 (by omega)]
  · exact cK_frT up_off h9
end VHeap2
theorem tn_0 : (0 : Int32).toNatClampNeg = 0 := by decide
theorem tn_1 : (1 : Int32).toNatClampNeg = 1 := by decide
theorem tn_2 : (2 : Int32).toNatClampNeg = 2 := by decide
theorem tn_3 : (3 : Int32).toNatClampNeg = 3 := by decide
theorem in4_0 : vp_in 0 4 := by unfold vp_in; decide
theorem in4_1 : vp_in 1 4 := by unfold vp_in; decide
theorem in4_2 : vp_in 2 4 := by unfold vp_in; decide
theorem in4_3 : vp_in 3 4 := by unfold vp_in; decide
theorem lt20 {p : Nat → Prop} (h : p 0 ∧ p 1 ∧ p 2 ∧ p 3 ∧ p 4 ∧ p 5 ∧ p 6 ∧ p 7 ∧ p 8 ∧ p 9 ∧ p 10 ∧ p 11 ∧ p 12 ∧ p 13 ∧ p 14 ∧ p 15 ∧ p 16 ∧ p 17 ∧ p 18 ∧ p 19) : ∀ k, k < 20 → p k := by
  obtain ⟨h0, h1, h2, h3, h4, h5, h6, h7, h8, h9, h10, h11, h12, h13, h14, h15, h16, h17, h18, h19⟩ := h
  intro k hk
  rcases (show k = 0 ∨ k = 1 ∨ k = 2 ∨ k = 3 ∨ k = 4 ∨ k = 5 ∨ k = 6 ∨ k = 7 ∨ k = 8 ∨ k = 9 ∨ k = 10 ∨ k = 11 ∨ k = 12 ∨ k = 13 ∨ k = 14 ∨ k = 15 ∨ k = 16 ∨ k = 17 ∨ k = 18 ∨ k = 19 by omega) with rfl | rfl | rfl | rfl | rfl | rfl | rfl | rfl | rfl | rfl | rfl | rfl | rfl | rfl | rfl | rfl | rfl | rfl | rfl | rfl <;> assumption
theorem lt6 {p : Nat → Prop} (h : p 0 ∧ p 1 ∧ p 2 ∧ p 3 ∧ p 4 ∧ p 5) : ∀ k, k < 6 → p k := by
  obtain ⟨h0, h1, h2, h3, h4, h5⟩ := h
  intro k hk
  rcases (show k = 0 ∨ k = 1 ∨ k = 2 ∨ k = 3 ∨ k = 4 ∨ k = 5 by omega) with rfl | rfl | rfl | rfl | rfl | rfl <;> assumption
end
section
/-! what else the nailers and the foggers do, and tell -/
def share (v : Nat → Int32) (k : Nat) : Int32 := if k = 2 then (if v 5 < 4 then 0 else 1) else if k = 4 then 0 + v 12 + v 13 + v 14 + v 15 else if k = 5 then 0 + v 16 + v 17 + v 18 + v 19 else v k
def dg (d : Int64) (x : Int32) : Int64 := d * 31 + x.toInt64
def addD (v : Nat → Int32) (d : Int64) : Int64 :=
  dg (dg (dg (dg (dg (dg (dg (dg (dg (dg (dg (dg (dg (dg (dg (dg (dg (dg (dg (dg d (v 0)) (v 1)) (v 2)) (v 3)) (v 4)) (v 5)) (v 6)) (v 7)) (v 8)) (v 9)) (v 10)) (v 11)) (v 12)) (v 16)) (v 13)) (v 17)) (v 14)) (v 18)) (v 15)) (v 19)
def prK (t : Nat) (g : Nat → Int32) : Int32 := woT t * (100 - g 0) / 100
def bag1 (price : Int32) (t : Nat) (v : Nat → Int32) : Nat → Int32 := upd (upd v (16 + t) (v (16 + t) - 1)) 7 (v 7 + price)
def bag2 (price : Int32) (t : Nat) (g : Nat → Int32) : Nat → Int32 := upd (upd (upd (upd g 1 (g 1 - price)) 3 (g 3 + price)) 2 (g 2 + 1)) 5 (g 5 + woT t)
def bagL : Nat → Int32 → Nat → (Nat → Int32) → (Nat → Int32) → (Nat → Int32) × (Nat → Int32)
  | 0, _, _, v, g => (v, g)
  | n + 1, price, t, v, g => if v (16 + t) ≤ 0 then (v, g) else if g 1 < price then (v, g) else bagL n price t (bag1 price t v) (bag2 price t g)
def buyK (t : Nat) (q : (Nat → Int32) × (Nat → Int32)) : (Nat → Int32) × (Nat → Int32) := bagL ((q.1 (16 + t)).toNatClampNeg + 1) (prK t q.2) t q.1 q.2
def buyB (v g : Nat → Int32) : (Nat → Int32) × (Nat → Int32) := buyK 3 (buyK 2 (buyK 1 (buyK 0 (v, g))))
def payD (v : Nat → Int32) : Int32 := imin (v 8) (v 7)
def colV (v : Nat → Int32) : Nat → Int32 := upd (upd v 8 (v 8 - payD v)) 7 (v 7 - payD v)
def colG (v g : Nat → Int32) : Nat → Int32 := upd g 1 (g 1 + payD v)
def dlv (g : Nat → Int32) : Nat → Int32 := upd (upd (upd g 1 (g 1 + g 5)) 4 (g 4 + g 5)) 5 0
theorem bag1_dec {price : Int32} {t : Nat} {v : Nat → Int32} : bag1 price t v (16 + t) = v (16 + t) - 1 := by
  unfold bag1
  rw [upd_ge (by omega)]
  exact if_pos rfl
end
section
/-! THE CLASSES NAILER AND FOGGER: the rest of their contracts -/
set_option maxHeartbeats 4000000 in
set_option maxRecDepth 100000 in
theorem c_X1_begin {l : Launch} {P : L5} {D : va_G} {N F T : Nat → Nat → Int32} {K : Nat → Int32} {A : Nat → Nat → Int32} {w : Int64} {j : Nat} (hj : j < 25) {v : Nat → Int32} {a b d : Int32} : CtV l yX1_begin cX1_begin 4 1 0 0 P D 97 97 False (cw P (va_up N j v) F T K A w) (cw P (va_up N j (upd (upd (upd v 0 a) 1 b) 2 d)) F T K A w) [.ref (rN P j), .int a, .int b, .int d] := by
  refine mk_Met pl_X1 [(0, .ref (rN P j)), (1, .int a), (2, .int b), (3, .int d)] rfl (Nat.le_of_ble_eq_true rfl) ?_
  intro p e s m args below meth cd C
  refine v_aload_n C 0 dX1_begin_0 rfl ?_
  refine v_iload_n C 1 dX1_begin_1 rfl ?_
  refine v_pN C hj 0 (by decide) k_35 dX1_begin_2 ?_
  refine v_aload_n C 0 dX1_begin_5 rfl ?_
  refine v_iload_n C 2 dX1_begin_6 rfl ?_
  refine v_pN C hj 1 (by decide) k_36 dX1_begin_7 ?_
  refine v_aload_n C 0 dX1_begin_10 rfl ?_
  refine v_iload_n C 3 dX1_begin_11 rfl ?_
  refine v_pN C hj 2 (by decide) k_38 dX1_begin_12 ?_
  exact v_vret C dX1_begin_15 rfl
set_option maxHeartbeats 4000000 in
set_option maxRecDepth 100000 in
theorem c_X1_sumOfL {l : Launch} {P : L5} {D : va_G} {N F T : Nat → Nat → Int32} {K : Nat → Int32} {A : Nat → Nat → Int32} {w : Int64} {j : Nat} (hj : j < 25) : CtI l yX1_sumOf cX1_sumOf 6 .int 1 0 0 P D 97 97 False (cw P N F T K A w) (cw P N F T K A w) [.ref (rL P j)] (0 + N j 12 + N j 13 + N j 14 + N j 15) := by
  refine mk_Met pl_X1 [(0, .ref (rL P j))] rfl (Nat.le_of_ble_eq_true rfl) ?_
  intro p e s m args below meth cd C
  refine v_iconst (v := 0) C dX1_sumOf_0 rfl ?_
  refine v_istore_n (lv' := [(1, .int 0), (0, .ref (rL P j))]) C dX1_sumOf_1 rfl (by decide) rfl ?_
  refine v_aload_n C 1 dX1_sumOf_2 rfl ?_
  refine v_astore_n (lv' := [(2, .ref (rL P j)), (1, .int 0), (0, .ref (rL P j))]) C dX1_sumOf_3 rfl (by decide) rfl ?_
  refine v_aload_n C 0 dX1_sumOf_4 rfl ?_
  refine v_lenL (a := 4) C hj rfl dX1_sumOf_5 ?_
  refine v_istore_n (lv' := [(3, .int 4), (2, .ref (rL P j)), (1, .int 0), (0, .ref (rL P j))]) C dX1_sumOf_6 rfl (by decide) rfl ?_
  refine v_iconst (v := 0) C dX1_sumOf_7 rfl ?_
  refine v_istore (lv' := [(4, .int 0), (3, .int 4), (2, .ref (rL P j)), (1, .int 0), (0, .ref (rL P j))]) C dX1_sumOf_8 (by decide) rfl ?_
  refine v_iload C 0 dX1_sumOf_10 rfl ?_
  refine v_iload_n C 1 dX1_sumOf_12 rfl ?_
  refine v_icmp_ge (tgt := 33) C dX1_sumOf_13 (by decide) (fun h9 => absurd h9 (by decide)) (fun _ => ?_)
  refine v_aload_n C 2 dX1_sumOf_16 rfl ?_
  refine v_iload C 0 dX1_sumOf_17 rfl ?_
  refine v_ldLuk C 0 hj tn_0 in4_0 rfl dX1_sumOf_19 ?_
  refine v_top (fun x_1 ex_1 => ?_)
  refine v_istore (lv' := [(5, .int x_1), (4, .int 0), (3, .int 4), (2, .ref (rL P j)), (1, .int 0), (0, .ref (rL P j))]) C dX1_sumOf_20 (by decide) rfl ?_
  refine v_iload_n C 4 dX1_sumOf_22 rfl ?_
  refine v_iload C 0 dX1_sumOf_23 rfl ?_
  refine v_iadd C dX1_sumOf_25 ?_
  refine v_top (fun x_2 ex_2 => ?_)
  refine v_istore_n (lv' := [(1, .int x_2), (5, .int x_1), (4, .int 0), (3, .int 4), (2, .ref (rL P j)), (0, .ref (rL P j))]) C dX1_sumOf_26 rfl (by decide) rfl ?_
  refine v_iinc (b := 1) (lv' := [(4, .int 1), (1, .int x_2), (5, .int x_1), (3, .int 4), (2, .ref (rL P j)), (0, .ref (rL P j))]) C 2 dX1_sumOf_27 rfl rfl (by decide) rfl ?_
  refine v_goto (tgt := 10) C dX1_sumOf_30 (by decide) ?_
  refine v_iload C 0 dX1_sumOf_10 rfl ?_
  refine v_iload_n C 3 dX1_sumOf_12 rfl ?_
  refine v_icmp_ge (tgt := 33) C dX1_sumOf_13 (by decide) (fun h9 => absurd h9 (by decide)) (fun _ => ?_)
  refine v_aload_n C 4 dX1_sumOf_16 rfl ?_
  refine v_iload C 0 dX1_sumOf_17 rfl ?_
  refine v_ldLuk C 1 hj tn_1 in4_1 rfl dX1_sumOf_19 ?_
  refine v_top (fun x_3 ex_3 => ?_)
  refine v_istore (lv' := [(5, .int x_3), (4, .int 1), (1, .int x_2), (3, .int 4), (2, .ref (rL P j)), (0, .ref (rL P j))]) C dX1_sumOf_20 (by decide) rfl ?_
  refine v_iload_n C 2 dX1_sumOf_22 rfl ?_
  refine v_iload C 0 dX1_sumOf_23 rfl ?_
  refine v_iadd C dX1_sumOf_25 ?_
  refine v_top (fun x_4 ex_4 => ?_)
  refine v_istore_n (lv' := [(1, .int x_4), (5, .int x_3), (4, .int 1), (3, .int 4), (2, .ref (rL P j)), (0, .ref (rL P j))]) C dX1_sumOf_26 rfl (by decide) rfl ?_
  refine v_iinc (b := 2) (lv' := [(4, .int 2), (1, .int x_4), (5, .int x_3), (3, .int 4), (2, .ref (rL P j)), (0, .ref (rL P j))]) C 2 dX1_sumOf_27 rfl rfl (by decide) rfl ?_
  refine v_goto (tgt := 10) C dX1_sumOf_30 (by decide) ?_
  refine v_iload C 0 dX1_sumOf_10 rfl ?_
  refine v_iload_n C 3 dX1_sumOf_12 rfl ?_
  refine v_icmp_ge (tgt := 33) C dX1_sumOf_13 (by decide) (fun h9 => absurd h9 (by decide)) (fun _ => ?_)
  refine v_aload_n C 4 dX1_sumOf_16 rfl ?_
  refine v_iload C 0 dX1_sumOf_17 rfl ?_
  refine v_ldLuk C 2 hj tn_2 in4_2 rfl dX1_sumOf_19 ?_
  refine v_top (fun x_5 ex_5 => ?_)
  refine v_istore (lv' := [(5, .int x_5), (4, .int 2), (1, .int x_4), (3, .int 4), (2, .ref (rL P j)), (0, .ref (rL P j))]) C dX1_sumOf_20 (by decide) rfl ?_
  refine v_iload_n C 2 dX1_sumOf_22 rfl ?_
  refine v_iload C 0 dX1_sumOf_23 rfl ?_
  refine v_iadd C dX1_sumOf_25 ?_
  refine v_top (fun x_6 ex_6 => ?_)
  refine v_istore_n (lv' := [(1, .int x_6), (5, .int x_5), (4, .int 2), (3, .int 4), (2, .ref (rL P j)), (0, .ref (rL P j))]) C dX1_sumOf_26 rfl (by decide) rfl ?_
  refine v_iinc (b := 3) (lv' := [(4, .int 3), (1, .int x_6), (5, .int x_5), (3, .int 4), (2, .ref (rL P j)), (0, .ref (rL P j))]) C 2 dX1_sumOf_27 rfl rfl (by decide) rfl ?_
  refine v_goto (tgt := 10) C dX1_sumOf_30 (by decide) ?_
  refine v_iload C 0 dX1_sumOf_10 rfl ?_
  refine v_iload_n C 3 dX1_sumOf_12 rfl ?_
  refine v_icmp_ge (tgt := 33) C dX1_sumOf_13 (by decide) (fun h9 => absurd h9 (by decide)) (fun _ => ?_)
  refine v_aload_n C 4 dX1_sumOf_16 rfl ?_
  refine v_iload C 0 dX1_sumOf_17 rfl ?_
  refine v_ldLuk C 3 hj tn_3 in4_3 rfl dX1_sumOf_19 ?_
  refine v_top (fun x_7 ex_7 => ?_)
  refine v_istore (lv' := [(5, .int x_7), (4, .int 3), (1, .int x_6), (3, .int 4), (2, .ref (rL P j)), (0, .ref (rL P j))]) C dX1_sumOf_20 (by decide) rfl ?_
  refine v_iload_n C 2 dX1_sumOf_22 rfl ?_
  refine v_iload C 0 dX1_sumOf_23 rfl ?_
  refine v_iadd C dX1_sumOf_25 ?_
  refine v_top (fun x_8 ex_8 => ?_)
  refine v_istore_n (lv' := [(1, .int x_8), (5, .int x_7), (4, .int 3), (3, .int 4), (2, .ref (rL P j)), (0, .ref (rL P j))]) C dX1_sumOf_26 rfl (by decide) rfl ?_
  refine v_iinc (b := 4) (lv' := [(4, .int 4), (1, .int x_8), (5, .int x_7), (3, .int 4), (2, .ref (rL P j)), (0, .ref (rL P j))]) C 2 dX1_sumOf_27 rfl rfl (by decide) rfl ?_
  refine v_goto (tgt := 10) C dX1_sumOf_30 (by decide) ?_
  refine v_iload C 0 dX1_sumOf_10 rfl ?_
  refine v_iload_n C 3 dX1_sumOf_12 rfl ?_
  refine v_icmp_ge (tgt := 33) C dX1_sumOf_13 (by decide) (fun _ => ?_) (fun h9 => absurd (by decide) h9)
  refine v_iload_n C 1 dX1_sumOf_33 rfl ?_
  exact v_iret C dX1_sumOf_34 rfl (by subst ex_1 ex_2 ex_3 ex_4 ex_5 ex_6 ex_7 ex_8; rfl)
set_option maxHeartbeats 4000000 in
set_option maxRecDepth 100000 in
theorem c_X1_sumOfB {l : Launch} {P : L5} {D : va_G} {N F T : Nat → Nat → Int32} {K : Nat → Int32} {A : Nat → Nat → Int32} {w : Int64} {j : Nat} (hj : j < 25) : CtI l yX1_sumOf cX1_sumOf 6 .int 1 0 0 P D 97 97 False (cw P N F T K A w) (cw P N F T K A w) [.ref (rB P j)] (0 + N j 16 + N j 17 + N j 18 + N j 19) := by
  refine mk_Met pl_X1 [(0, .ref (rB P j))] rfl (Nat.le_of_ble_eq_true rfl) ?_
  intro p e s m args below meth cd C
  refine v_iconst (v := 0) C dX1_sumOf_0 rfl ?_
  refine v_istore_n (lv' := [(1, .int 0), (0, .ref (rB P j))]) C dX1_sumOf_1 rfl (by decide) rfl ?_
  refine v_aload_n C 1 dX1_sumOf_2 rfl ?_
  refine v_astore_n (lv' := [(2, .ref (rB P j)), (1, .int 0), (0, .ref (rB P j))]) C dX1_sumOf_3 rfl (by decide) rfl ?_
  refine v_aload_n C 0 dX1_sumOf_4 rfl ?_
  refine v_lenB (a := 4) C hj rfl dX1_sumOf_5 ?_
  refine v_istore_n (lv' := [(3, .int 4), (2, .ref (rB P j)), (1, .int 0), (0, .ref (rB P j))]) C dX1_sumOf_6 rfl (by decide) rfl ?_
  refine v_iconst (v := 0) C dX1_sumOf_7 rfl ?_
  refine v_istore (lv' := [(4, .int 0), (3, .int 4), (2, .ref (rB P j)), (1, .int 0), (0, .ref (rB P j))]) C dX1_sumOf_8 (by decide) rfl ?_
  refine v_iload C 0 dX1_sumOf_10 rfl ?_
  refine v_iload_n C 1 dX1_sumOf_12 rfl ?_
  refine v_icmp_ge (tgt := 33) C dX1_sumOf_13 (by decide) (fun h9 => absurd h9 (by decide)) (fun _ => ?_)
  refine v_aload_n C 2 dX1_sumOf_16 rfl ?_
  refine v_iload C 0 dX1_sumOf_17 rfl ?_
  refine v_ldBuk C 0 hj tn_0 in4_0 rfl dX1_sumOf_19 ?_
  refine v_top (fun x_1 ex_1 => ?_)
  refine v_istore (lv' := [(5, .int x_1), (4, .int 0), (3, .int 4), (2, .ref (rB P j)), (1, .int 0), (0, .ref (rB P j))]) C dX1_sumOf_20 (by decide) rfl ?_
  refine v_iload_n C 4 dX1_sumOf_22 rfl ?_
  refine v_iload C 0 dX1_sumOf_23 rfl ?_
  refine v_iadd C dX1_sumOf_25 ?_
  refine v_top (fun x_2 ex_2 => ?_)
  refine v_istore_n (lv' := [(1, .int x_2), (5, .int x_1), (4, .int 0), (3, .int 4), (2, .ref (rB P j)), (0, .ref (rB P j))]) C dX1_sumOf_26 rfl (by decide) rfl ?_
  refine v_iinc (b := 1) (lv' := [(4, .int 1), (1, .int x_2), (5, .int x_1), (3, .int 4), (2, .ref (rB P j)), (0, .ref (rB P j))]) C 2 dX1_sumOf_27 rfl rfl (by decide) rfl ?_
  refine v_goto (tgt := 10) C dX1_sumOf_30 (by decide) ?_
  refine v_iload C 0 dX1_sumOf_10 rfl ?_
  refine v_iload_n C 3 dX1_sumOf_12 rfl ?_
  refine v_icmp_ge (tgt := 33) C dX1_sumOf_13 (by decide) (fun h9 => absurd h9 (by decide)) (fun _ => ?_)
  refine v_aload_n C 4 dX1_sumOf_16 rfl ?_
  refine v_iload C 0 dX1_sumOf_17 rfl ?_
  refine v_ldBuk C 1 hj tn_1 in4_1 rfl dX1_sumOf_19 ?_
  refine v_top (fun x_3 ex_3 => ?_)
  refine v_istore (lv' := [(5, .int x_3), (4, .int 1), (1, .int x_2), (3, .int 4), (2, .ref (rB P j)), (0, .ref (rB P j))]) C dX1_sumOf_20 (by decide) rfl ?_
  refine v_iload_n C 2 dX1_sumOf_22 rfl ?_
  refine v_iload C 0 dX1_sumOf_23 rfl ?_
  refine v_iadd C dX1_sumOf_25 ?_
  refine v_top (fun x_4 ex_4 => ?_)
  refine v_istore_n (lv' := [(1, .int x_4), (5, .int x_3), (4, .int 1), (3, .int 4), (2, .ref (rB P j)), (0, .ref (rB P j))]) C dX1_sumOf_26 rfl (by decide) rfl ?_
  refine v_iinc (b := 2) (lv' := [(4, .int 2), (1, .int x_4), (5, .int x_3), (3, .int 4), (2, .ref (rB P j)), (0, .ref (rB P j))]) C 2 dX1_sumOf_27 rfl rfl (by decide) rfl ?_
  refine v_goto (tgt := 10) C dX1_sumOf_30 (by decide) ?_
  refine v_iload C 0 dX1_sumOf_10 rfl ?_
  refine v_iload_n C 3 dX1_sumOf_12 rfl ?_
  refine v_icmp_ge (tgt := 33) C dX1_sumOf_13 (by decide) (fun h9 => absurd h9 (by decide)) (fun _ => ?_)
  refine v_aload_n C 4 dX1_sumOf_16 rfl ?_
  refine v_iload C 0 dX1_sumOf_17 rfl ?_
  refine v_ldBuk C 2 hj tn_2 in4_2 rfl dX1_sumOf_19 ?_
  refine v_top (fun x_5 ex_5 => ?_)
  refine v_istore (lv' := [(5, .int x_5), (4, .int 2), (1, .int x_4), (3, .int 4), (2, .ref (rB P j)), (0, .ref (rB P j))]) C dX1_sumOf_20 (by decide) rfl ?_
  refine v_iload_n C 2 dX1_sumOf_22 rfl ?_
  refine v_iload C 0 dX1_sumOf_23 rfl ?_
  refine v_iadd C dX1_sumOf_25 ?_
  refine v_top (fun x_6 ex_6 => ?_)
  refine v_istore_n (lv' := [(1, .int x_6), (5, .int x_5), (4, .int 2), (3, .int 4), (2, .ref (rB P j)), (0, .ref (rB P j))]) C dX1_sumOf_26 rfl (by decide) rfl ?_
  refine v_iinc (b := 3) (lv' := [(4, .int 3), (1, .int x_6), (5, .int x_5), (3, .int 4), (2, .ref (rB P j)), (0, .ref (rB P j))]) C 2 dX1_sumOf_27 rfl rfl (by decide) rfl ?_
  refine v_goto (tgt := 10) C dX1_sumOf_30 (by decide) ?_
  refine v_iload C 0 dX1_sumOf_10 rfl ?_
  refine v_iload_n C 3 dX1_sumOf_12 rfl ?_
  refine v_icmp_ge (tgt := 33) C dX1_sumOf_13 (by decide) (fun h9 => absurd h9 (by decide)) (fun _ => ?_)
  refine v_aload_n C 4 dX1_sumOf_16 rfl ?_
  refine v_iload C 0 dX1_sumOf_17 rfl ?_
  refine v_ldBuk C 3 hj tn_3 in4_3 rfl dX1_sumOf_19 ?_
  refine v_top (fun x_7 ex_7 => ?_)
  refine v_istore (lv' := [(5, .int x_7), (4, .int 3), (1, .int x_6), (3, .int 4), (2, .ref (rB P j)), (0, .ref (rB P j))]) C dX1_sumOf_20 (by decide) rfl ?_
  refine v_iload_n C 2 dX1_sumOf_22 rfl ?_
  refine v_iload C 0 dX1_sumOf_23 rfl ?_
  refine v_iadd C dX1_sumOf_25 ?_
  refine v_top (fun x_8 ex_8 => ?_)
  refine v_istore_n (lv' := [(1, .int x_8), (5, .int x_7), (4, .int 3), (3, .int 4), (2, .ref (rB P j)), (0, .ref (rB P j))]) C dX1_sumOf_26 rfl (by decide) rfl ?_
  refine v_iinc (b := 4) (lv' := [(4, .int 4), (1, .int x_8), (5, .int x_7), (3, .int 4), (2, .ref (rB P j)), (0, .ref (rB P j))]) C 2 dX1_sumOf_27 rfl rfl (by decide) rfl ?_
  refine v_goto (tgt := 10) C dX1_sumOf_30 (by decide) ?_
  refine v_iload C 0 dX1_sumOf_10 rfl ?_
  refine v_iload_n C 3 dX1_sumOf_12 rfl ?_
  refine v_icmp_ge (tgt := 33) C dX1_sumOf_13 (by decide) (fun _ => ?_) (fun h9 => absurd (by decide) h9)
  refine v_iload_n C 1 dX1_sumOf_33 rfl ?_
  exact v_iret C dX1_sumOf_34 rfl (by subst ex_1 ex_2 ex_3 ex_4 ex_5 ex_6 ex_7 ex_8; rfl)
set_option maxHeartbeats 4000000 in
set_option maxRecDepth 100000 in
theorem c_X1_number_0 {l : Launch} {P : L5} {D : va_G} {N F T : Nat → Nat → Int32} {K : Nat → Int32} {A : Nat → Nat → Int32} {w : Int64} {j : Nat} (hj : j < 25) : CtI l yX1_number cX1_number 2 .int 1 0 0 P D 97 97 False (cw P N F T K A w) (cw P N F T K A w) [.ref (rN P j), .int 0] (N j 0) := by
  refine mk_Met pl_X1 [(0, .ref (rN P j)), (1, .int 0)] rfl (Nat.le_of_ble_eq_true rfl) ?_
  intro p e s m args below meth cd C
  refine v_iload_n C 1 dX1_number_0 rfl ?_
  refine v_tableIn (tgt := 60) C dX1_number_1 (by decide) (by decide) rfl (by decide) ?_
  refine v_aload_n C 0 dX1_number_60 rfl ?_
  refine v_gNu C hj 0 (by decide) k_35 rfl dX1_number_61 ?_
  exact v_iret C dX1_number_64 rfl rfl
set_option maxHeartbeats 4000000 in
set_option maxRecDepth 100000 in
theorem c_X1_number_1 {l : Launch} {P : L5} {D : va_G} {N F T : Nat → Nat → Int32} {K : Nat → Int32} {A : Nat → Nat → Int32} {w : Int64} {j : Nat} (hj : j < 25) : CtI l yX1_number cX1_number 2 .int 1 0 0 P D 97 97 False (cw P N F T K A w) (cw P N F T K A w) [.ref (rN P j), .int 1] (N j 1) := by
  refine mk_Met pl_X1 [(0, .ref (rN P j)), (1, .int 1)] rfl (Nat.le_of_ble_eq_true rfl) ?_
  intro p e s m args below meth cd C
  refine v_iload_n C 1 dX1_number_0 rfl ?_
  refine v_tableIn (tgt := 65) C dX1_number_1 (by decide) (by decide) rfl (by decide) ?_
  refine v_aload_n C 0 dX1_number_65 rfl ?_
  refine v_gNu C hj 1 (by decide) k_36 rfl dX1_number_66 ?_
  exact v_iret C dX1_number_69 rfl rfl
set_option maxHeartbeats 4000000 in
set_option maxRecDepth 100000 in
theorem c_X1_number_2 {l : Launch} {P : L5} {D : va_G} {N F T : Nat → Nat → Int32} {K : Nat → Int32} {A : Nat → Nat → Int32} {w : Int64} {j : Nat} (hj : j < 25) : CtI l yX1_number cX1_number 2 .int 1 0 0 P D 97 97 False (cw P N F T K A w) (cw P N F T K A w) [.ref (rN P j), .int 2] (N j 2) := by
  refine mk_Met pl_X1 [(0, .ref (rN P j)), (1, .int 2)] rfl (Nat.le_of_ble_eq_true rfl) ?_
  intro p e s m args below meth cd C
  refine v_iload_n C 1 dX1_number_0 rfl ?_
  refine v_tableIn (tgt := 70) C dX1_number_1 (by decide) (by decide) rfl (by decide) ?_
  refine v_aload_n C 0 dX1_number_70 rfl ?_
  refine v_gNu C hj 2 (by decide) k_38 rfl dX1_number_71 ?_
  exact v_iret C dX1_number_74 rfl rfl
set_option maxHeartbeats 4000000 in
set_option maxRecDepth 100000 in
theorem c_X1_number_3 {l : Launch} {P : L5} {D : va_G} {N F T : Nat → Nat → Int32} {K : Nat → Int32} {A : Nat → Nat → Int32} {w : Int64} {j : Nat} (hj : j < 25) : CtI l yX1_number cX1_number 2 .int 1 0 0 P D 97 97 False (cw P N F T K A w) (cw P N F T K A w) [.ref (rN P j), .int 3] (N j 3) := by
  refine mk_Met pl_X1 [(0, .ref (rN P j)), (1, .int 3)] rfl (Nat.le_of_ble_eq_true rfl) ?_
  intro p e s m args below meth cd C
  refine v_iload_n C 1 dX1_number_0 rfl ?_
  refine v_tableIn (tgt := 75) C dX1_number_1 (by decide) (by decide) rfl (by decide) ?_
  refine v_aload_n C 0 dX1_number_75 rfl ?_
  refine v_gNu C hj 3 (by decide) k_41 rfl dX1_number_76 ?_
  exact v_iret C dX1_number_79 rfl rfl
set_option maxHeartbeats 4000000 in
set_option maxRecDepth 100000 in
theorem c_X1_number_4 {l : Launch} {P : L5} {D : va_G} {N F T : Nat → Nat → Int32} {K : Nat → Int32} {A : Nat → Nat → Int32} {w : Int64} {j : Nat} (hj : j < 25) : CtI l yX1_number cX1_number 2 .int 1 0 0 P D 97 97 False (cw P N F T K A w) (cw P N F T K A w) [.ref (rN P j), .int 4] (N j 4) := by
  refine mk_Met pl_X1 [(0, .ref (rN P j)), (1, .int 4)] rfl (Nat.le_of_ble_eq_true rfl) ?_
  intro p e s m args below meth cd C
  refine v_iload_n C 1 dX1_number_0 rfl ?_
  refine v_tableIn (tgt := 80) C dX1_number_1 (by decide) (by decide) rfl (by decide) ?_
  refine v_aload_n C 0 dX1_number_80 rfl ?_
  refine v_gNu C hj 4 (by decide) k_43 rfl dX1_number_81 ?_
  exact v_iret C dX1_number_84 rfl rfl
set_option maxHeartbeats 4000000 in
set_option maxRecDepth 100000 in
theorem c_X1_number_5 {l : Launch} {P : L5} {D : va_G} {N F T : Nat → Nat → Int32} {K : Nat → Int32} {A : Nat → Nat → Int32} {w : Int64} {j : Nat} (hj : j < 25) : CtI l yX1_number cX1_number 2 .int 1 0 0 P D 97 97 False (cw P N F T K A w) (cw P N F T K A w) [.ref (rN P j), .int 5] (N j 5) := by
  refine mk_Met pl_X1 [(0, .ref (rN P j)), (1, .int 5)] rfl (Nat.le_of_ble_eq_true rfl) ?_
  intro p e s m args below meth cd C
  refine v_iload_n C 1 dX1_number_0 rfl ?_
  refine v_tableIn (tgt := 85) C dX1_number_1 (by decide) (by decide) rfl (by decide) ?_
  refine v_aload_n C 0 dX1_number_85 rfl ?_
  refine v_gNu C hj 5 (by decide) k_44 rfl dX1_number_86 ?_
  exact v_iret C dX1_number_89 rfl rfl
set_option maxHeartbeats 4000000 in
set_option maxRecDepth 100000 in
theorem c_X1_number_6 {l : Launch} {P : L5} {D : va_G} {N F T : Nat → Nat → Int32} {K : Nat → Int32} {A : Nat → Nat → Int32} {w : Int64} {j : Nat} (hj : j < 25) : CtI l yX1_number cX1_number 2 .int 1 0 0 P D 97 97 False (cw P N F T K A w) (cw P N F T K A w) [.ref (rN P j), .int 6] (N j 6) := by
  refine mk_Met pl_X1 [(0, .ref (rN P j)), (1, .int 6)] rfl (Nat.le_of_ble_eq_true rfl) ?_
  intro p e s m args below meth cd C
  refine v_iload_n C 1 dX1_number_0 rfl ?_
  refine v_tableIn (tgt := 90) C dX1_number_1 (by decide) (by decide) rfl (by decide) ?_
  refine v_aload_n C 0 dX1_number_90 rfl ?_
  refine v_gNu C hj 6 (by decide) k_46 rfl dX1_number_91 ?_
  exact v_iret C dX1_number_94 rfl rfl
set_option maxHeartbeats 4000000 in
set_option maxRecDepth 100000 in
theorem c_X1_number_7 {l : Launch} {P : L5} {D : va_G} {N F T : Nat → Nat → Int32} {K : Nat → Int32} {A : Nat → Nat → Int32} {w : Int64} {j : Nat} (hj : j < 25) : CtI l yX1_number cX1_number 2 .int 1 0 0 P D 97 97 False (cw P N F T K A w) (cw P N F T K A w) [.ref (rN P j), .int 7] (N j 7) := by
  refine mk_Met pl_X1 [(0, .ref (rN P j)), (1, .int 7)] rfl (Nat.le_of_ble_eq_true rfl) ?_
  intro p e s m args below meth cd C
  refine v_iload_n C 1 dX1_number_0 rfl ?_
  refine v_tableIn (tgt := 95) C dX1_number_1 (by decide) (by decide) rfl (by decide) ?_
  refine v_aload_n C 0 dX1_number_95 rfl ?_
  refine v_gNu C hj 7 (by decide) k_48 rfl dX1_number_96 ?_
  exact v_iret C dX1_number_99 rfl rfl
set_option maxHeartbeats 4000000 in
set_option maxRecDepth 100000 in
theorem c_X1_number_8 {l : Launch} {P : L5} {D : va_G} {N F T : Nat → Nat → Int32} {K : Nat → Int32} {A : Nat → Nat → Int32} {w : Int64} {j : Nat} (hj : j < 25) : CtI l yX1_number cX1_number 2 .int 1 0 0 P D 97 97 False (cw P N F T K A w) (cw P N F T K A w) [.ref (rN P j), .int 8] (N j 8) := by
  refine mk_Met pl_X1 [(0, .ref (rN P j)), (1, .int 8)] rfl (Nat.le_of_ble_eq_true rfl) ?_
  intro p e s m args below meth cd C
  refine v_iload_n C 1 dX1_number_0 rfl ?_
  refine v_tableIn (tgt := 100) C dX1_number_1 (by decide) (by decide) rfl (by decide) ?_
  refine v_aload_n C 0 dX1_number_100 rfl ?_
  refine v_gNu C hj 8 (by decide) k_52 rfl dX1_number_101 ?_
  exact v_iret C dX1_number_104 rfl rfl
set_option maxHeartbeats 4000000 in
set_option maxRecDepth 100000 in
theorem c_X1_number_9 {l : Launch} {P : L5} {D : va_G} {N F T : Nat → Nat → Int32} {K : Nat → Int32} {A : Nat → Nat → Int32} {w : Int64} {j : Nat} (hj : j < 25) : CtI l yX1_number cX1_number 2 .int 1 0 0 P D 97 97 False (cw P N F T K A w) (cw P N F T K A w) [.ref (rN P j), .int 9] (N j 9) := by
  refine mk_Met pl_X1 [(0, .ref (rN P j)), (1, .int 9)] rfl (Nat.le_of_ble_eq_true rfl) ?_
  intro p e s m args below meth cd C
  refine v_iload_n C 1 dX1_number_0 rfl ?_
  refine v_tableIn (tgt := 105) C dX1_number_1 (by decide) (by decide) rfl (by decide) ?_
  refine v_aload_n C 0 dX1_number_105 rfl ?_
  refine v_gNu C hj 9 (by decide) k_54 rfl dX1_number_106 ?_
  exact v_iret C dX1_number_109 rfl rfl
set_option maxHeartbeats 4000000 in
set_option maxRecDepth 100000 in
theorem c_X1_number_10 {l : Launch} {P : L5} {D : va_G} {N F T : Nat → Nat → Int32} {K : Nat → Int32} {A : Nat → Nat → Int32} {w : Int64} {j : Nat} (hj : j < 25) : CtI l yX1_number cX1_number 2 .int 1 0 0 P D 97 97 False (cw P N F T K A w) (cw P N F T K A w) [.ref (rN P j), .int 10] (N j 10) := by
  refine mk_Met pl_X1 [(0, .ref (rN P j)), (1, .int 10)] rfl (Nat.le_of_ble_eq_true rfl) ?_
  intro p e s m args below meth cd C
  refine v_iload_n C 1 dX1_number_0 rfl ?_
  refine v_tableIn (tgt := 110) C dX1_number_1 (by decide) (by decide) rfl (by decide) ?_
  refine v_aload_n C 0 dX1_number_110 rfl ?_
  refine v_gNu C hj 10 (by decide) k_55 rfl dX1_number_111 ?_
  exact v_iret C dX1_number_114 rfl rfl
set_option maxHeartbeats 4000000 in
set_option maxRecDepth 100000 in
theorem c_X1_number_11 {l : Launch} {P : L5} {D : va_G} {N F T : Nat → Nat → Int32} {K : Nat → Int32} {A : Nat → Nat → Int32} {w : Int64} {j : Nat} (hj : j < 25) : CtI l yX1_number cX1_number 2 .int 1 0 0 P D 97 97 False (cw P N F T K A w) (cw P N F T K A w) [.ref (rN P j), .int 11] (N j 11) := by
  refine mk_Met pl_X1 [(0, .ref (rN P j)), (1, .int 11)] rfl (Nat.le_of_ble_eq_true rfl) ?_
  intro p e s m args below meth cd C
  refine v_iload_n C 1 dX1_number_0 rfl ?_
  refine v_tableOut (tgt := 115) C dX1_number_1 (by decide) (by decide) ?_
  refine v_aload_n C 0 dX1_number_115 rfl ?_
  refine v_gNu C hj 11 (by decide) k_56 rfl dX1_number_116 ?_
  exact v_iret C dX1_number_119 rfl rfl
set_option maxHeartbeats 4000000 in
set_option maxRecDepth 100000 in
theorem c_X1_shareOfTotal_2 {l : Launch} {P : L5} {D : va_G} {N F T : Nat → Nat → Int32} {K : Nat → Int32} {A : Nat → Nat → Int32} {w : Int64} {j : Nat} (hj : j < 25) : CtI l yX1_shareOfTotal cX1_shareOfTotal 2 .int 2 0 0 P D 97 97 False (cw P N F T K A w) (cw P N F T K A w) [.ref (rN P j), .int 2] (share (N j) 2) := by
  refine mk_Met pl_X1 [(0, .ref (rN P j)), (1, .int 2)] rfl (Nat.le_of_ble_eq_true rfl) ?_
  intro p e s m args below meth cd C
  refine v_iload_n C 1 dX1_shareOfTotal_0 rfl ?_
  refine v_tableIn (tgt := 48) C dX1_shareOfTotal_1 (by decide) (by decide) rfl (by decide) ?_
  refine v_aload_n C 0 dX1_shareOfTotal_48 rfl ?_
  refine v_gNu C hj 5 (by decide) k_44 rfl dX1_shareOfTotal_49 ?_
  refine v_iconst (v := 4) C dX1_shareOfTotal_52 rfl ?_
  refine v_icmp_lt (tgt := 60) C dX1_shareOfTotal_53 (by decide) (fun h53_1 => ?_) (fun h53_1 => ?_)
  · refine v_iconst (v := 0) C dX1_shareOfTotal_60 rfl ?_
    exact v_iret C dX1_shareOfTotal_61 rfl (by show _ = if N j 5 < 4 then _ else _; rw [if_pos (by exact h53_1)])
  · refine v_iconst (v := 1) C dX1_shareOfTotal_56 rfl ?_
    refine v_goto (tgt := 61) C dX1_shareOfTotal_57 (by decide) ?_
    exact v_iret C dX1_shareOfTotal_61 rfl (by show _ = if N j 5 < 4 then _ else _; rw [if_neg (by exact h53_1)])
set_option maxHeartbeats 4000000 in
set_option maxRecDepth 100000 in
theorem c_X1_shareOfTotal_3 {l : Launch} {P : L5} {D : va_G} {N F T : Nat → Nat → Int32} {K : Nat → Int32} {A : Nat → Nat → Int32} {w : Int64} {j : Nat} (hj : j < 25) : CtI l yX1_shareOfTotal cX1_shareOfTotal 2 .int 2 0 0 P D 97 97 False (cw P N F T K A w) (cw P N F T K A w) [.ref (rN P j), .int 3] (share (N j) 3) := by
  refine mk_Met pl_X1 [(0, .ref (rN P j)), (1, .int 3)] rfl (Nat.le_of_ble_eq_true rfl) ?_
  intro p e s m args below meth cd C
  refine v_iload_n C 1 dX1_shareOfTotal_0 rfl ?_
  refine v_tableIn (tgt := 62) C dX1_shareOfTotal_1 (by decide) (by decide) rfl (by decide) ?_
  refine v_aload_n C 0 dX1_shareOfTotal_62 rfl ?_
  refine v_gNu C hj 3 (by decide) k_41 rfl dX1_shareOfTotal_63 ?_
  exact v_iret C dX1_shareOfTotal_66 rfl rfl
set_option maxHeartbeats 4000000 in
set_option maxRecDepth 100000 in
theorem c_X1_shareOfTotal_4 {l : Launch} {P : L5} {D : va_G} {N F T : Nat → Nat → Int32} {K : Nat → Int32} {A : Nat → Nat → Int32} {w : Int64} {j : Nat} (hj : j < 25) : CtI l yX1_shareOfTotal cX1_shareOfTotal 2 .int 2 0 0 P D 97 97 False (cw P N F T K A w) (cw P N F T K A w) [.ref (rN P j), .int 4] (share (N j) 4) := by
  refine mk_Met pl_X1 [(0, .ref (rN P j)), (1, .int 4)] rfl (Nat.le_of_ble_eq_true rfl) ?_
  intro p e s m args below meth cd C
  refine v_iload_n C 1 dX1_shareOfTotal_0 rfl ?_
  refine v_tableIn (tgt := 67) C dX1_shareOfTotal_1 (by decide) (by decide) rfl (by decide) ?_
  refine v_aload_n C 0 dX1_shareOfTotal_67 rfl ?_
  refine v_gNu C hj 12 (by decide) k_57 rfl dX1_shareOfTotal_68 ?_
  refine go_I (run_S C (c_X1_sumOfL hj) k_184 k_3 k_182 k_183 dd_X1_sumOf ⟨Nat.le_of_ble_eq_true rfl, Nat.le_of_ble_eq_true rfl⟩ rfl (Nat.le_of_ble_eq_true rfl) dX1_shareOfTotal_71 ⟨Nat.le_of_ble_eq_true rfl, Nat.le_of_ble_eq_true rfl⟩) ?_
  exact v_iret C dX1_shareOfTotal_74 rfl rfl
set_option maxHeartbeats 4000000 in
set_option maxRecDepth 100000 in
theorem c_X1_shareOfTotal_5 {l : Launch} {P : L5} {D : va_G} {N F T : Nat → Nat → Int32} {K : Nat → Int32} {A : Nat → Nat → Int32} {w : Int64} {j : Nat} (hj : j < 25) : CtI l yX1_shareOfTotal cX1_shareOfTotal 2 .int 2 0 0 P D 97 97 False (cw P N F T K A w) (cw P N F T K A w) [.ref (rN P j), .int 5] (share (N j) 5) := by
  refine mk_Met pl_X1 [(0, .ref (rN P j)), (1, .int 5)] rfl (Nat.le_of_ble_eq_true rfl) ?_
  intro p e s m args below meth cd C
  refine v_iload_n C 1 dX1_shareOfTotal_0 rfl ?_
  refine v_tableIn (tgt := 75) C dX1_shareOfTotal_1 (by decide) (by decide) rfl (by decide) ?_
  refine v_aload_n C 0 dX1_shareOfTotal_75 rfl ?_
  refine v_gNu C hj 13 (by decide) k_59 rfl dX1_shareOfTotal_76 ?_
  refine go_I (run_S C (c_X1_sumOfB hj) k_184 k_3 k_182 k_183 dd_X1_sumOf ⟨Nat.le_of_ble_eq_true rfl, Nat.le_of_ble_eq_true rfl⟩ rfl (Nat.le_of_ble_eq_true rfl) dX1_shareOfTotal_79 ⟨Nat.le_of_ble_eq_true rfl, Nat.le_of_ble_eq_true rfl⟩) ?_
  exact v_iret C dX1_shareOfTotal_82 rfl rfl
set_option maxHeartbeats 4000000 in
set_option maxRecDepth 100000 in
theorem c_X1_shareOfTotal_7 {l : Launch} {P : L5} {D : va_G} {N F T : Nat → Nat → Int32} {K : Nat → Int32} {A : Nat → Nat → Int32} {w : Int64} {j : Nat} (hj : j < 25) : CtI l yX1_shareOfTotal cX1_shareOfTotal 2 .int 2 0 0 P D 97 97 False (cw P N F T K A w) (cw P N F T K A w) [.ref (rN P j), .int 7] (share (N j) 7) := by
  refine mk_Met pl_X1 [(0, .ref (rN P j)), (1, .int 7)] rfl (Nat.le_of_ble_eq_true rfl) ?_
  intro p e s m args below meth cd C
  refine v_iload_n C 1 dX1_shareOfTotal_0 rfl ?_
  refine v_tableIn (tgt := 83) C dX1_shareOfTotal_1 (by decide) (by decide) rfl (by decide) ?_
  refine v_aload_n C 0 dX1_shareOfTotal_83 rfl ?_
  refine v_gNu C hj 7 (by decide) k_48 rfl dX1_shareOfTotal_84 ?_
  exact v_iret C dX1_shareOfTotal_87 rfl rfl
set_option maxHeartbeats 4000000 in
set_option maxRecDepth 100000 in
theorem c_X1_shareOfTotal_8 {l : Launch} {P : L5} {D : va_G} {N F T : Nat → Nat → Int32} {K : Nat → Int32} {A : Nat → Nat → Int32} {w : Int64} {j : Nat} (hj : j < 25) : CtI l yX1_shareOfTotal cX1_shareOfTotal 2 .int 2 0 0 P D 97 97 False (cw P N F T K A w) (cw P N F T K A w) [.ref (rN P j), .int 8] (share (N j) 8) := by
  refine mk_Met pl_X1 [(0, .ref (rN P j)), (1, .int 8)] rfl (Nat.le_of_ble_eq_true rfl) ?_
  intro p e s m args below meth cd C
  refine v_iload_n C 1 dX1_shareOfTotal_0 rfl ?_
  refine v_tableIn (tgt := 88) C dX1_shareOfTotal_1 (by decide) (by decide) rfl (by decide) ?_
  refine v_aload_n C 0 dX1_shareOfTotal_88 rfl ?_
  refine v_gNu C hj 8 (by decide) k_52 rfl dX1_shareOfTotal_89 ?_
  exact v_iret C dX1_shareOfTotal_92 rfl rfl
set_option maxHeartbeats 4000000 in
set_option maxRecDepth 100000 in
theorem c_X1_shareOfTotal_9 {l : Launch} {P : L5} {D : va_G} {N F T : Nat → Nat → Int32} {K : Nat → Int32} {A : Nat → Nat → Int32} {w : Int64} {j : Nat} (hj : j < 25) : CtI l yX1_shareOfTotal cX1_shareOfTotal 2 .int 2 0 0 P D 97 97 False (cw P N F T K A w) (cw P N F T K A w) [.ref (rN P j), .int 9] (share (N j) 9) := by
  refine mk_Met pl_X1 [(0, .ref (rN P j)), (1, .int 9)] rfl (Nat.le_of_ble_eq_true rfl) ?_
  intro p e s m args below meth cd C
  refine v_iload_n C 1 dX1_shareOfTotal_0 rfl ?_
  refine v_tableIn (tgt := 93) C dX1_shareOfTotal_1 (by decide) (by decide) rfl (by decide) ?_
  refine v_aload_n C 0 dX1_shareOfTotal_93 rfl ?_
  refine v_gNu C hj 9 (by decide) k_54 rfl dX1_shareOfTotal_94 ?_
  exact v_iret C dX1_shareOfTotal_97 rfl rfl
set_option maxHeartbeats 4000000 in
set_option maxRecDepth 100000 in
theorem c_X1_shareOfTotal_10 {l : Launch} {P : L5} {D : va_G} {N F T : Nat → Nat → Int32} {K : Nat → Int32} {A : Nat → Nat → Int32} {w : Int64} {j : Nat} (hj : j < 25) : CtI l yX1_shareOfTotal cX1_shareOfTotal 2 .int 2 0 0 P D 97 97 False (cw P N F T K A w) (cw P N F T K A w) [.ref (rN P j), .int 10] (share (N j) 10) := by
  refine mk_Met pl_X1 [(0, .ref (rN P j)), (1, .int 10)] rfl (Nat.le_of_ble_eq_true rfl) ?_
  intro p e s m args below meth cd C
  refine v_iload_n C 1 dX1_shareOfTotal_0 rfl ?_
  refine v_tableOut (tgt := 98) C dX1_shareOfTotal_1 (by decide) (by decide) ?_
  refine v_aload_n C 0 dX1_shareOfTotal_98 rfl ?_
  refine v_gNu C hj 10 (by decide) k_55 rfl dX1_shareOfTotal_99 ?_
  exact v_iret C dX1_shareOfTotal_102 rfl rfl
set_option maxHeartbeats 4000000 in
set_option maxRecDepth 100000 in
theorem c_X1_addToDigest {l : Launch} {P : L5} {D : va_G} {N F T : Nat → Nat → Int32} {K : Nat → Int32} {A : Nat → Nat → Int32} {w : Int64} {j : Nat} (hj : j < 25) {d : Int64} : CtL l yX1_addToDigest cX1_addToDigest 6 2 0 0 P D 97 97 False (cw P N F T K A w) (cw P N F T K A w) [.ref (rN P j), .long d] (addD (N j) d) := by
  refine mk_Met pl_X1 [(0, .ref (rN P j)), (1, .long d)] rfl (Nat.le_of_ble_eq_true rfl) ?_
  intro p e s m args below meth cd C
  refine v_lload_n C 1 dX1_addToDigest_0 rfl ?_
  refine v_lstore_n (lv' := [(3, .long d), (0, .ref (rN P j)), (1, .long d)]) C dX1_addToDigest_1 rfl (by decide) rfl ?_
  refine v_iconst (v := 0) C dX1_addToDigest_2 rfl ?_
  refine v_istore (lv' := [(5, .int 0), (3, .long d), (0, .ref (rN P j)), (1, .long d)]) C dX1_addToDigest_3 (by decide) rfl ?_
  refine v_iload C 0 dX1_addToDigest_5 rfl ?_
  refine v_bipush (v := 12) C dX1_addToDigest_7 rfl ?_
  refine v_icmp_ge (tgt := 32) C dX1_addToDigest_9 (by decide) (fun h9 => absurd h9 (by decide)) (fun _ => ?_)
  refine v_lload_n C 1 dX1_addToDigest_12 rfl ?_
  refine v_ldc2 (v := 31) C dX1_addToDigest_13 k_189 ?_
  refine v_lmul C dX1_addToDigest_16 ?_
  refine v_aload_n C 2 dX1_addToDigest_17 rfl ?_
  refine v_iload C 0 dX1_addToDigest_18 rfl ?_
  refine go_I (run_V C (c_X1_number_0 hj) k_193 k_3 k_190 k_192 ks_5 dd_X1_number ⟨Nat.le_of_ble_eq_true rfl, Nat.le_of_ble_eq_true rfl⟩ (rcN hj) rfl (Nat.le_of_ble_eq_true rfl) dX1_addToDigest_20 ⟨Nat.le_of_ble_eq_true rfl, Nat.le_of_ble_eq_true rfl⟩) ?_
  refine v_i2l C dX1_addToDigest_23 ?_
  refine v_ladd C dX1_addToDigest_24 ?_
  refine v_topl (fun y_1 ey_1 => ?_)
  replace ey_1 : y_1 = dg d (N j 0) := ey_1
  refine v_lstore_n (lv' := [(3, .long y_1), (5, .int 0), (0, .ref (rN P j)), (1, .long d)]) C dX1_addToDigest_25 rfl (by decide) rfl ?_
  refine v_iinc (b := 1) (lv' := [(5, .int 1), (3, .long y_1), (0, .ref (rN P j)), (1, .long d)]) C 1 dX1_addToDigest_26 rfl rfl (by decide) rfl ?_
  refine v_goto (tgt := 5) C dX1_addToDigest_29 (by decide) ?_
  refine v_iload C 0 dX1_addToDigest_5 rfl ?_
  refine v_bipush (v := 12) C dX1_addToDigest_7 rfl ?_
  refine v_icmp_ge (tgt := 32) C dX1_addToDigest_9 (by decide) (fun h9 => absurd h9 (by decide)) (fun _ => ?_)
  refine v_lload_n C 1 dX1_addToDigest_12 rfl ?_
  refine v_ldc2 (v := 31) C dX1_addToDigest_13 k_189 ?_
  refine v_lmul C dX1_addToDigest_16 ?_
  refine v_aload_n C 2 dX1_addToDigest_17 rfl ?_
  refine v_iload C 0 dX1_addToDigest_18 rfl ?_
  refine go_I (run_V C (c_X1_number_1 hj) k_193 k_3 k_190 k_192 ks_5 dd_X1_number ⟨Nat.le_of_ble_eq_true rfl, Nat.le_of_ble_eq_true rfl⟩ (rcN hj) rfl (Nat.le_of_ble_eq_true rfl) dX1_addToDigest_20 ⟨Nat.le_of_ble_eq_true rfl, Nat.le_of_ble_eq_true rfl⟩) ?_
  refine v_i2l C dX1_addToDigest_23 ?_
  refine v_ladd C dX1_addToDigest_24 ?_
  refine v_topl (fun y_2 ey_2 => ?_)
  replace ey_2 : y_2 = dg y_1 (N j 1) := ey_2
  refine v_lstore_n (lv' := [(3, .long y_2), (5, .int 1), (0, .ref (rN P j)), (1, .long d)]) C dX1_addToDigest_25 rfl (by decide) rfl ?_
  refine v_iinc (b := 2) (lv' := [(5, .int 2), (3, .long y_2), (0, .ref (rN P j)), (1, .long d)]) C 1 dX1_addToDigest_26 rfl rfl (by decide) rfl ?_
  refine v_goto (tgt := 5) C dX1_addToDigest_29 (by decide) ?_
  refine v_iload C 0 dX1_addToDigest_5 rfl ?_
  refine v_bipush (v := 12) C dX1_addToDigest_7 rfl ?_
  refine v_icmp_ge (tgt := 32) C dX1_addToDigest_9 (by decide) (fun h9 => absurd h9 (by decide)) (fun _ => ?_)
  refine v_lload_n C 1 dX1_addToDigest_12 rfl ?_
  refine v_ldc2 (v := 31) C dX1_addToDigest_13 k_189 ?_
  refine v_lmul C dX1_addToDigest_16 ?_
  refine v_aload_n C 2 dX1_addToDigest_17 rfl ?_
  refine v_iload C 0 dX1_addToDigest_18 rfl ?_
  refine go_I (run_V C (c_X1_number_2 hj) k_193 k_3 k_190 k_192 ks_5 dd_X1_number ⟨Nat.le_of_ble_eq_true rfl, Nat.le_of_ble_eq_true rfl⟩ (rcN hj) rfl (Nat.le_of_ble_eq_true rfl) dX1_addToDigest_20 ⟨Nat.le_of_ble_eq_true rfl, Nat.le_of_ble_eq_true rfl⟩) ?_
  refine v_i2l C dX1_addToDigest_23 ?_
  refine v_ladd C dX1_addToDigest_24 ?_
  refine v_topl (fun y_3 ey_3 => ?_)
  replace ey_3 : y_3 = dg y_2 (N j 2) := ey_3
  refine v_lstore_n (lv' := [(3, .long y_3), (5, .int 2), (0, .ref (rN P j)), (1, .long d)]) C dX1_addToDigest_25 rfl (by decide) rfl ?_
  refine v_iinc (b := 3) (lv' := [(5, .int 3), (3, .long y_3), (0, .ref (rN P j)), (1, .long d)]) C 1 dX1_addToDigest_26 rfl rfl (by decide) rfl ?_
  refine v_goto (tgt := 5) C dX1_addToDigest_29 (by decide) ?_
  refine v_iload C 0 dX1_addToDigest_5 rfl ?_
  refine v_bipush (v := 12) C dX1_addToDigest_7 rfl ?_
  refine v_icmp_ge (tgt := 32) C dX1_addToDigest_9 (by decide) (fun h9 => absurd h9 (by decide)) (fun _ => ?_)
  refine v_lload_n C 1 dX1_addToDigest_12 rfl ?_
  refine v_ldc2 (v := 31) C dX1_addToDigest_13 k_189 ?_
  refine v_lmul C dX1_addToDigest_16 ?_
  refine v_aload_n C 2 dX1_addToDigest_17 rfl ?_
  refine v_iload C 0 dX1_addToDigest_18 rfl ?_
  refine go_I (run_V C (c_X1_number_3 hj) k_193 k_3 k_190 k_192 ks_5 dd_X1_number ⟨Nat.le_of_ble_eq_true rfl, Nat.le_of_ble_eq_true rfl⟩ (rcN hj) rfl (Nat.le_of_ble_eq_true rfl) dX1_addToDigest_20 ⟨Nat.le_of_ble_eq_true rfl, Nat.le_of_ble_eq_true rfl⟩) ?_
  refine v_i2l C dX1_addToDigest_23 ?_
  refine v_ladd C dX1_addToDigest_24 ?_
  refine v_topl (fun y_4 ey_4 => ?_)
  replace ey_4 : y_4 = dg y_3 (N j 3) := ey_4
  refine v_lstore_n (lv' := [(3, .long y_4), (5, .int 3), (0, .ref (rN P j)), (1, .long d)]) C dX1_addToDigest_25 rfl (by decide) rfl ?_
  refine v_iinc (b := 4) (lv' := [(5, .int 4), (3, .long y_4), (0, .ref (rN P j)), (1, .long d)]) C 1 dX1_addToDigest_26 rfl rfl (by decide) rfl ?_
  refine v_goto (tgt := 5) C dX1_addToDigest_29 (by decide) ?_
  refine v_iload C 0 dX1_addToDigest_5 rfl ?_
  refine v_bipush (v := 12) C dX1_addToDigest_7 rfl ?_
  refine v_icmp_ge (tgt := 32) C dX1_addToDigest_9 (by decide) (fun h9 => absurd h9 (by decide)) (fun _ => ?_)
  refine v_lload_n C 1 dX1_addToDigest_12 rfl ?_
  refine v_ldc2 (v := 31) C dX1_addToDigest_13 k_189 ?_
  refine v_lmul C dX1_addToDigest_16 ?_
  refine v_aload_n C 2 dX1_addToDigest_17 rfl ?_
  refine v_iload C 0 dX1_addToDigest_18 rfl ?_
  refine go_I (run_V C (c_X1_number_4 hj) k_193 k_3 k_190 k_192 ks_5 dd_X1_number ⟨Nat.le_of_ble_eq_true rfl, Nat.le_of_ble_eq_true rfl⟩ (rcN hj) rfl (Nat.le_of_ble_eq_true rfl) dX1_addToDigest_20 ⟨Nat.le_of_ble_eq_true rfl, Nat.le_of_ble_eq_true rfl⟩) ?_
  refine v_i2l C dX1_addToDigest_23 ?_
  refine v_ladd C dX1_addToDigest_24 ?_
  refine v_topl (fun y_5 ey_5 => ?_)
  replace ey_5 : y_5 = dg y_4 (N j 4) := ey_5
  refine v_lstore_n (lv' := [(3, .long y_5), (5, .int 4), (0, .ref (rN P j)), (1, .long d)]) C dX1_addToDigest_25 rfl (by decide) rfl ?_
  refine v_iinc (b := 5) (lv' := [(5, .int 5), (3, .long y_5), (0, .ref (rN P j)), (1, .long d)]) C 1 dX1_addToDigest_26 rfl rfl (by decide) rfl ?_
  refine v_goto (tgt := 5) C dX1_addToDigest_29 (by decide) ?_
  refine v_iload C 0 dX1_addToDigest_5 rfl ?_
  refine v_bipush (v := 12) C dX1_addToDigest_7 rfl ?_
  refine v_icmp_ge (tgt := 32) C dX1_addToDigest_9 (by decide) (fun h9 => absurd h9 (by decide)) (fun _ => ?_)
  refine v_lload_n C 1 dX1_addToDigest_12 rfl ?_
  refine v_ldc2 (v := 31) C dX1_addToDigest_13 k_189 ?_
  refine v_lmul C dX1_addToDigest_16 ?_
  refine v_aload_n C 2 dX1_addToDigest_17 rfl ?_
  refine v_iload C 0 dX1_addToDigest_18 rfl ?_
  refine go_I (run_V C (c_X1_number_5 hj) k_193 k_3 k_190 k_192 ks_5 dd_X1_number ⟨Nat.le_of_ble_eq_true rfl, Nat.le_of_ble_eq_true rfl⟩ (rcN hj) rfl (Nat.le_of_ble_eq_true rfl) dX1_addToDigest_20 ⟨Nat.le_of_ble_eq_true rfl, Nat.le_of_ble_eq_true rfl⟩) ?_
  refine v_i2l C dX1_addToDigest_23 ?_
  refine v_ladd C dX1_addToDigest_24 ?_
  refine v_topl (fun y_6 ey_6 => ?_)
  replace ey_6 : y_6 = dg y_5 (N j 5) := ey_6
  refine v_lstore_n (lv' := [(3, .long y_6), (5, .int 5), (0, .ref (rN P j)), (1, .long d)]) C dX1_addToDigest_25 rfl (by decide) rfl ?_
  refine v_iinc (b := 6) (lv' := [(5, .int 6), (3, .long y_6), (0, .ref (rN P j)), (1, .long d)]) C 1 dX1_addToDigest_26 rfl rfl (by decide) rfl ?_
  refine v_goto (tgt := 5) C dX1_addToDigest_29 (by decide) ?_
  refine v_iload C 0 dX1_addToDigest_5 rfl ?_
  refine v_bipush (v := 12) C dX1_addToDigest_7 rfl ?_
  refine v_icmp_ge (tgt := 32) C dX1_addToDigest_9 (by decide) (fun h9 => absurd h9 (by decide)) (fun _ => ?_)
  refine v_lload_n C 1 dX1_addToDigest_12 rfl ?_
  refine v_ldc2 (v := 31) C dX1_addToDigest_13 k_189 ?_
  refine v_lmul C dX1_addToDigest_16 ?_
  refine v_aload_n C 2 dX1_addToDigest_17 rfl ?_
  refine v_iload C 0 dX1_addToDigest_18 rfl ?_
  refine go_I (run_V C (c_X1_number_6 hj) k_193 k_3 k_190 k_192 ks_5 dd_X1_number ⟨Nat.le_of_ble_eq_true rfl, Nat.le_of_ble_eq_true rfl⟩ (rcN hj) rfl (Nat.le_of_ble_eq_true rfl) dX1_addToDigest_20 ⟨Nat.le_of_ble_eq_true rfl, Nat.le_of_ble_eq_true rfl⟩) ?_
  refine v_i2l C dX1_addToDigest_23 ?_
  refine v_ladd C dX1_addToDigest_24 ?_
  refine v_topl (fun y_7 ey_7 => ?_)
  replace ey_7 : y_7 = dg y_6 (N j 6) := ey_7
  refine v_lstore_n (lv' := [(3, .long y_7), (5, .int 6), (0, .ref (rN P j)), (1, .long d)]) C dX1_addToDigest_25 rfl (by decide) rfl ?_
  refine v_iinc (b := 7) (lv' := [(5, .int 7), (3, .long y_7), (0, .ref (rN P j)), (1, .long d)]) C 1 dX1_addToDigest_26 rfl rfl (by decide) rfl ?_
  refine v_goto (tgt := 5) C dX1_addToDigest_29 (by decide) ?_
  refine v_iload C 0 dX1_addToDigest_5 rfl ?_
  refine v_bipush (v := 12) C dX1_addToDigest_7 rfl ?_
  refine v_icmp_ge (tgt := 32) C dX1_addToDigest_9 (by decide) (fun h9 => absurd h9 (by decide)) (fun _ => ?_)
  refine v_lload_n C 1 dX1_addToDigest_12 rfl ?_
  refine v_ldc2 (v := 31) C dX1_addToDigest_13 k_189 ?_
  refine v_lmul C dX1_addToDigest_16 ?_
  refine v_aload_n C 2 dX1_addToDigest_17 rfl ?_
  refine v_iload C 0 dX1_addToDigest_18 rfl ?_
  refine go_I (run_V C (c_X1_number_7 hj) k_193 k_3 k_190 k_192 ks_5 dd_X1_number ⟨Nat.le_of_ble_eq_true rfl, Nat.le_of_ble_eq_true rfl⟩ (rcN hj) rfl (Nat.le_of_ble_eq_true rfl) dX1_addToDigest_20 ⟨Nat.le_of_ble_eq_true rfl, Nat.le_of_ble_eq_true rfl⟩) ?_
  refine v_i2l C dX1_addToDigest_23 ?_
  refine v_ladd C dX1_addToDigest_24 ?_
  refine v_topl (fun y_8 ey_8 => ?_)
  replace ey_8 : y_8 = dg y_7 (N j 7) := ey_8
  refine v_lstore_n (lv' := [(3, .long y_8), (5, .int 7), (0, .ref (rN P j)), (1, .long d)]) C dX1_addToDigest_25 rfl (by decide) rfl ?_
  refine v_iinc (b := 8) (lv' := [(5, .int 8), (3, .long y_8), (0, .ref (rN P j)), (1, .long d)]) C 1 dX1_addToDigest_26 rfl rfl (by decide) rfl ?_
  refine v_goto (tgt := 5) C dX1_addToDigest_29 (by decide) ?_
  refine v_iload C 0 dX1_addToDigest_5 rfl ?_
  refine v_bipush (v := 12) C dX1_addToDigest_7 rfl ?_
  refine v_icmp_ge (tgt := 32) C dX1_addToDigest_9 (by decide) (fun h9 => absurd h9 (by decide)) (fun _ => ?_)
  refine v_lload_n C 1 dX1_addToDigest_12 rfl ?_
  refine v_ldc2 (v := 31) C dX1_addToDigest_13 k_189 ?_
  refine v_lmul C dX1_addToDigest_16 ?_
  refine v_aload_n C 2 dX1_addToDigest_17 rfl ?_
  refine v_iload C 0 dX1_addToDigest_18 rfl ?_
  refine go_I (run_V C (c_X1_number_8 hj) k_193 k_3 k_190 k_192 ks_5 dd_X1_number ⟨Nat.le_of_ble_eq_true rfl, Nat.le_of_ble_eq_true rfl⟩ (rcN hj) rfl (Nat.le_of_ble_eq_true rfl) dX1_addToDigest_20 ⟨Nat.le_of_ble_eq_true rfl, Nat.le_of_ble_eq_true rfl⟩) ?_
  refine v_i2l C dX1_addToDigest_23 ?_
  refine v_ladd C dX1_addToDigest_24 ?_
  refine v_topl (fun y_9 ey_9 => ?_)
  replace ey_9 : y_9 = dg y_8 (N j 8) := ey_9
  refine v_lstore_n (lv' := [(3, .long y_9), (5, .int 8), (0, .ref (rN P j)), (1, .long d)]) C dX1_addToDigest_25 rfl (by decide) rfl ?_
  refine v_iinc (b := 9) (lv' := [(5, .int 9), (3, .long y_9), (0, .ref (rN P j)), (1, .long d)]) C 1 dX1_addToDigest_26 rfl rfl (by decide) rfl ?_
  refine v_goto (tgt := 5) C dX1_addToDigest_29 (by decide) ?_
  refine v_iload C 0 dX1_addToDigest_5 rfl ?_
  refine v_bipush (v := 12) C dX1_addToDigest_7 rfl ?_
  refine v_icmp_ge (tgt := 32) C dX1_addToDigest_9 (by decide) (fun h9 => absurd h9 (by decide)) (fun _ => ?_)
  refine v_lload_n C 1 dX1_addToDigest_12 rfl ?_
  refine v_ldc2 (v := 31) C dX1_addToDigest_13 k_189 ?_
  refine v_lmul C dX1_addToDigest_16 ?_
  refine v_aload_n C 2 dX1_addToDigest_17 rfl ?_
  refine v_iload C 0 dX1_addToDigest_18 rfl ?_
  refine go_I (run_V C (c_X1_number_9 hj) k_193 k_3 k_190 k_192 ks_5 dd_X1_number ⟨Nat.le_of_ble_eq_true rfl, Nat.le_of_ble_eq_true rfl⟩ (rcN hj) rfl (Nat.le_of_ble_eq_true rfl) dX1_addToDigest_20 ⟨Nat.le_of_ble_eq_true rfl, Nat.le_of_ble_eq_true rfl⟩) ?_
  refine v_i2l C dX1_addToDigest_23 ?_
  refine v_ladd C dX1_addToDigest_24 ?_
  refine v_topl (fun y_10 ey_10 => ?_)
  replace ey_10 : y_10 = dg y_9 (N j 9) := ey_10
  refine v_lstore_n (lv' := [(3, .long y_10), (5, .int 9), (0, .ref (rN P j)), (1, .long d)]) C dX1_addToDigest_25 rfl (by decide) rfl ?_
  refine v_iinc (b := 10) (lv' := [(5, .int 10), (3, .long y_10), (0, .ref (rN P j)), (1, .long d)]) C 1 dX1_addToDigest_26 rfl rfl (by decide) rfl ?_
  refine v_goto (tgt := 5) C dX1_addToDigest_29 (by decide) ?_
  refine v_iload C 0 dX1_addToDigest_5 rfl ?_
  refine v_bipush (v := 12) C dX1_addToDigest_7 rfl ?_
  refine v_icmp_ge (tgt := 32) C dX1_addToDigest_9 (by decide) (fun h9 => absurd h9 (by decide)) (fun _ => ?_)
  refine v_lload_n C 1 dX1_addToDigest_12 rfl ?_
  refine v_ldc2 (v := 31) C dX1_addToDigest_13 k_189 ?_
  refine v_lmul C dX1_addToDigest_16 ?_
  refine v_aload_n C 2 dX1_addToDigest_17 rfl ?_
  refine v_iload C 0 dX1_addToDigest_18 rfl ?_
  refine go_I (run_V C (c_X1_number_10 hj) k_193 k_3 k_190 k_192 ks_5 dd_X1_number ⟨Nat.le_of_ble_eq_true rfl, Nat.le_of_ble_eq_true rfl⟩ (rcN hj) rfl (Nat.le_of_ble_eq_true rfl) dX1_addToDigest_20 ⟨Nat.le_of_ble_eq_true rfl, Nat.le_of_ble_eq_true rfl⟩) ?_
  refine v_i2l C dX1_addToDigest_23 ?_
  refine v_ladd C dX1_addToDigest_24 ?_
  refine v_topl (fun y_11 ey_11 => ?_)
  replace ey_11 : y_11 = dg y_10 (N j 10) := ey_11
  refine v_lstore_n (lv' := [(3, .long y_11), (5, .int 10), (0, .ref (rN P j)), (1, .long d)]) C dX1_addToDigest_25 rfl (by decide) rfl ?_
  refine v_iinc (b := 11) (lv' := [(5, .int 11), (3, .long y_11), (0, .ref (rN P j)), (1, .long d)]) C 1 dX1_addToDigest_26 rfl rfl (by decide) rfl ?_
  refine v_goto (tgt := 5) C dX1_addToDigest_29 (by decide) ?_
  refine v_iload C 0 dX1_addToDigest_5 rfl ?_
  refine v_bipush (v := 12) C dX1_addToDigest_7 rfl ?_
  refine v_icmp_ge (tgt := 32) C dX1_addToDigest_9 (by decide) (fun h9 => absurd h9 (by decide)) (fun _ => ?_)
  refine v_lload_n C 1 dX1_addToDigest_12 rfl ?_
  refine v_ldc2 (v := 31) C dX1_addToDigest_13 k_189 ?_
  refine v_lmul C dX1_addToDigest_16 ?_
  refine v_aload_n C 2 dX1_addToDigest_17 rfl ?_
  refine v_iload C 0 dX1_addToDigest_18 rfl ?_
  refine go_I (run_V C (c_X1_number_11 hj) k_193 k_3 k_190 k_192 ks_5 dd_X1_number ⟨Nat.le_of_ble_eq_true rfl, Nat.le_of_ble_eq_true rfl⟩ (rcN hj) rfl (Nat.le_of_ble_eq_true rfl) dX1_addToDigest_20 ⟨Nat.le_of_ble_eq_true rfl, Nat.le_of_ble_eq_true rfl⟩) ?_
  refine v_i2l C dX1_addToDigest_23 ?_
  refine v_ladd C dX1_addToDigest_24 ?_
  refine v_topl (fun y_12 ey_12 => ?_)
  replace ey_12 : y_12 = dg y_11 (N j 11) := ey_12
  refine v_lstore_n (lv' := [(3, .long y_12), (5, .int 11), (0, .ref (rN P j)), (1, .long d)]) C dX1_addToDigest_25 rfl (by decide) rfl ?_
  refine v_iinc (b := 12) (lv' := [(5, .int 12), (3, .long y_12), (0, .ref (rN P j)), (1, .long d)]) C 1 dX1_addToDigest_26 rfl rfl (by decide) rfl ?_
  refine v_goto (tgt := 5) C dX1_addToDigest_29 (by decide) ?_
  refine v_iload C 0 dX1_addToDigest_5 rfl ?_
  refine v_bipush (v := 12) C dX1_addToDigest_7 rfl ?_
  refine v_icmp_ge (tgt := 32) C dX1_addToDigest_9 (by decide) (fun _ => ?_) (fun h9 => absurd (by decide) h9)
  refine v_iconst (v := 0) C dX1_addToDigest_32 rfl ?_
  refine v_istore (lv' := [(5, .int 0), (3, .long y_12), (0, .ref (rN P j)), (1, .long d)]) C dX1_addToDigest_33 (by decide) rfl ?_
  refine v_iload C 0 dX1_addToDigest_35 rfl ?_
  refine v_iconst (v := 4) C dX1_addToDigest_37 rfl ?_
  refine v_icmp_ge (tgt := 77) C dX1_addToDigest_38 (by decide) (fun h9 => absurd h9 (by decide)) (fun _ => ?_)
  refine v_lload_n C 1 dX1_addToDigest_41 rfl ?_
  refine v_ldc2 (v := 31) C dX1_addToDigest_42 k_189 ?_
  refine v_lmul C dX1_addToDigest_45 ?_
  refine v_aload_n C 2 dX1_addToDigest_46 rfl ?_
  refine v_gNu C hj 12 (by decide) k_57 rfl dX1_addToDigest_47 ?_
  refine v_iload C 0 dX1_addToDigest_50 rfl ?_
  refine v_ldLuk C 0 hj tn_0 in4_0 rfl dX1_addToDigest_52 ?_
  refine v_i2l C dX1_addToDigest_53 ?_
  refine v_ladd C dX1_addToDigest_54 ?_
  refine v_topl (fun y_13 ey_13 => ?_)
  replace ey_13 : y_13 = dg y_12 (N j 12) := ey_13
  refine v_lstore_n (lv' := [(3, .long y_13), (5, .int 0), (0, .ref (rN P j)), (1, .long d)]) C dX1_addToDigest_55 rfl (by decide) rfl ?_
  refine v_lload_n C 0 dX1_addToDigest_56 rfl ?_
  refine v_ldc2 (v := 31) C dX1_addToDigest_57 k_189 ?_
  refine v_lmul C dX1_addToDigest_60 ?_
  refine v_aload_n C 2 dX1_addToDigest_61 rfl ?_
  refine v_gNu C hj 13 (by decide) k_59 rfl dX1_addToDigest_62 ?_
  refine v_iload C 1 dX1_addToDigest_65 rfl ?_
  refine v_ldBuk C 0 hj tn_0 in4_0 rfl dX1_addToDigest_67 ?_
  refine v_i2l C dX1_addToDigest_68 ?_
  refine v_ladd C dX1_addToDigest_69 ?_
  refine v_topl (fun y_14 ey_14 => ?_)
  replace ey_14 : y_14 = dg y_13 (N j 16) := ey_14
  refine v_lstore_n (lv' := [(3, .long y_14), (5, .int 0), (0, .ref (rN P j)), (1, .long d)]) C dX1_addToDigest_70 rfl (by decide) rfl ?_
  refine v_iinc (b := 1) (lv' := [(5, .int 1), (3, .long y_14), (0, .ref (rN P j)), (1, .long d)]) C 1 dX1_addToDigest_71 rfl rfl (by decide) rfl ?_
  refine v_goto (tgt := 35) C dX1_addToDigest_74 (by decide) ?_
  refine v_iload C 0 dX1_addToDigest_35 rfl ?_
  refine v_iconst (v := 4) C dX1_addToDigest_37 rfl ?_
  refine v_icmp_ge (tgt := 77) C dX1_addToDigest_38 (by decide) (fun h9 => absurd h9 (by decide)) (fun _ => ?_)
  refine v_lload_n C 1 dX1_addToDigest_41 rfl ?_
  refine v_ldc2 (v := 31) C dX1_addToDigest_42 k_189 ?_
  refine v_lmul C dX1_addToDigest_45 ?_
  refine v_aload_n C 2 dX1_addToDigest_46 rfl ?_
  refine v_gNu C hj 12 (by decide) k_57 rfl dX1_addToDigest_47 ?_
  refine v_iload C 0 dX1_addToDigest_50 rfl ?_
  refine v_ldLuk C 1 hj tn_1 in4_1 rfl dX1_addToDigest_52 ?_
  refine v_i2l C dX1_addToDigest_53 ?_
  refine v_ladd C dX1_addToDigest_54 ?_
  refine v_topl (fun y_15 ey_15 => ?_)
  replace ey_15 : y_15 = dg y_14 (N j 13) := ey_15
  refine v_lstore_n (lv' := [(3, .long y_15), (5, .int 1), (0, .ref (rN P j)), (1, .long d)]) C dX1_addToDigest_55 rfl (by decide) rfl ?_
  refine v_lload_n C 0 dX1_addToDigest_56 rfl ?_
  refine v_ldc2 (v := 31) C dX1_addToDigest_57 k_189 ?_
  refine v_lmul C dX1_addToDigest_60 ?_
  refine v_aload_n C 2 dX1_addToDigest_61 rfl ?_
  refine v_gNu C hj 13 (by decide) k_59 rfl dX1_addToDigest_62 ?_
  refine v_iload C 1 dX1_addToDigest_65 rfl ?_
  refine v_ldBuk C 1 hj tn_1 in4_1 rfl dX1_addToDigest_67 ?_
  refine v_i2l C dX1_addToDigest_68 ?_
  refine v_ladd C dX1_addToDigest_69 ?_
  refine v_topl (fun y_16 ey_16 => ?_)
  replace ey_16 : y_16 = dg y_15 (N j 17) := ey_16
  refine v_lstore_n (lv' := [(3, .long y_16), (5, .int 1), (0, .ref (rN P j)), (1, .long d)]) C dX1_addToDigest_70 rfl (by decide) rfl ?_
  refine v_iinc (b := 2) (lv' := [(5, .int 2), (3, .long y_16), (0, .ref (rN P j)), (1, .long d)]) C 1 dX1_addToDigest_71 rfl rfl (by decide) rfl ?_
  refine v_goto (tgt := 35) C dX1_addToDigest_74 (by decide) ?_
  refine v_iload C 0 dX1_addToDigest_35 rfl ?_
  refine v_iconst (v := 4) C dX1_addToDigest_37 rfl ?_
  refine v_icmp_ge (tgt := 77) C dX1_addToDigest_38 (by decide) (fun h9 => absurd h9 (by decide)) (fun _ => ?_)
  refine v_lload_n C 1 dX1_addToDigest_41 rfl ?_
  refine v_ldc2 (v := 31) C dX1_addToDigest_42 k_189 ?_
  refine v_lmul C dX1_addToDigest_45 ?_
  refine v_aload_n C 2 dX1_addToDigest_46 rfl ?_
  refine v_gNu C hj 12 (by decide) k_57 rfl dX1_addToDigest_47 ?_
  refine v_iload C 0 dX1_addToDigest_50 rfl ?_
  refine v_ldLuk C 2 hj tn_2 in4_2 rfl dX1_addToDigest_52 ?_
  refine v_i2l C dX1_addToDigest_53 ?_
  refine v_ladd C dX1_addToDigest_54 ?_
  refine v_topl (fun y_17 ey_17 => ?_)
  replace ey_17 : y_17 = dg y_16 (N j 14) := ey_17
  refine v_lstore_n (lv' := [(3, .long y_17), (5, .int 2), (0, .ref (rN P j)), (1, .long d)]) C dX1_addToDigest_55 rfl (by decide) rfl ?_
  refine v_lload_n C 0 dX1_addToDigest_56 rfl ?_
  refine v_ldc2 (v := 31) C dX1_addToDigest_57 k_189 ?_
  refine v_lmul C dX1_addToDigest_60 ?_
  refine v_aload_n C 2 dX1_addToDigest_61 rfl ?_
  refine v_gNu C hj 13 (by decide) k_59 rfl dX1_addToDigest_62 ?_
  refine v_iload C 1 dX1_addToDigest_65 rfl ?_
  refine v_ldBuk C 2 hj tn_2 in4_2 rfl dX1_addToDigest_67 ?_
  refine v_i2l C dX1_addToDigest_68 ?_
  refine v_ladd C dX1_addToDigest_69 ?_
  refine v_topl (fun y_18 ey_18 => ?_)
  replace ey_18 : y_18 = dg y_17 (N j 18) := ey_18
  refine v_lstore_n (lv' := [(3, .long y_18), (5, .int 2), (0, .ref (rN P j)), (1, .long d)]) C dX1_addToDigest_70 rfl (by decide) rfl ?_
  refine v_iinc (b := 3) (lv' := [(5, .int 3), (3, .long y_18), (0, .ref (rN P j)), (1, .long d)]) C 1 dX1_addToDigest_71 rfl rfl (by decide) rfl ?_
  refine v_goto (tgt := 35) C dX1_addToDigest_74 (by decide) ?_
  refine v_iload C 0 dX1_addToDigest_35 rfl ?_
  refine v_iconst (v := 4) C dX1_addToDigest_37 rfl ?_
  refine v_icmp_ge (tgt := 77) C dX1_addToDigest_38 (by decide) (fun h9 => absurd h9 (by decide)) (fun _ => ?_)
  refine v_lload_n C 1 dX1_addToDigest_41 rfl ?_
  refine v_ldc2 (v := 31) C dX1_addToDigest_42 k_189 ?_
  refine v_lmul C dX1_addToDigest_45 ?_
  refine v_aload_n C 2 dX1_addToDigest_46 rfl ?_
  refine v_gNu C hj 12 (by decide) k_57 rfl dX1_addToDigest_47 ?_
  refine v_iload C 0 dX1_addToDigest_50 rfl ?_
  refine v_ldLuk C 3 hj tn_3 in4_3 rfl dX1_addToDigest_52 ?_
  refine v_i2l C dX1_addToDigest_53 ?_
  refine v_ladd C dX1_addToDigest_54 ?_
  refine v_topl (fun y_19 ey_19 => ?_)
  replace ey_19 : y_19 = dg y_18 (N j 15) := ey_19
  refine v_lstore_n (lv' := [(3, .long y_19), (5, .int 3), (0, .ref (rN P j)), (1, .long d)]) C dX1_addToDigest_55 rfl (by decide) rfl ?_
  refine v_lload_n C 0 dX1_addToDigest_56 rfl ?_
  refine v_ldc2 (v := 31) C dX1_addToDigest_57 k_189 ?_
  refine v_lmul C dX1_addToDigest_60 ?_
  refine v_aload_n C 2 dX1_addToDigest_61 rfl ?_
  refine v_gNu C hj 13 (by decide) k_59 rfl dX1_addToDigest_62 ?_
  refine v_iload C 1 dX1_addToDigest_65 rfl ?_
  refine v_ldBuk C 3 hj tn_3 in4_3 rfl dX1_addToDigest_67 ?_
  refine v_i2l C dX1_addToDigest_68 ?_
  refine v_ladd C dX1_addToDigest_69 ?_
  refine v_topl (fun y_20 ey_20 => ?_)
  replace ey_20 : y_20 = dg y_19 (N j 19) := ey_20
  refine v_lstore_n (lv' := [(3, .long y_20), (5, .int 3), (0, .ref (rN P j)), (1, .long d)]) C dX1_addToDigest_70 rfl (by decide) rfl ?_
  refine v_iinc (b := 4) (lv' := [(5, .int 4), (3, .long y_20), (0, .ref (rN P j)), (1, .long d)]) C 1 dX1_addToDigest_71 rfl rfl (by decide) rfl ?_
  refine v_goto (tgt := 35) C dX1_addToDigest_74 (by decide) ?_
  refine v_iload C 0 dX1_addToDigest_35 rfl ?_
  refine v_iconst (v := 4) C dX1_addToDigest_37 rfl ?_
  refine v_icmp_ge (tgt := 77) C dX1_addToDigest_38 (by decide) (fun _ => ?_) (fun h9 => absurd (by decide) h9)
  refine v_lload_n C 1 dX1_addToDigest_77 rfl ?_
  exact v_lret C dX1_addToDigest_78 rfl (by rw [ey_20, ey_19, ey_18, ey_17, ey_16, ey_15, ey_14, ey_13, ey_12, ey_11, ey_10, ey_9, ey_8, ey_7, ey_6, ey_5, ey_4, ey_3, ey_2, ey_1]; rfl)
set_option maxHeartbeats 4000000 in
set_option maxRecDepth 100000 in
theorem c_X1_copyFrom {l : Launch} {P : L5} {D : va_G} {N F T : Nat → Nat → Int32} {K : Nat → Int32} {A : Nat → Nat → Int32} {w : Int64} {j : Nat} (hj : j < 25) {v : Nat → Int32} {i : Nat} (hi : i < 25) (hne : i ≠ j) : CtV l yX1_copyFrom cX1_copyFrom 3 1 0 0 P D 97 97 False (cw P (va_up N j v) F T K A w) (cw P (va_up N j (N i)) F T K A w) [.ref (rN P j), .ref (rN P i)] := by
  refine mk_Met pl_X1 [(0, .ref (rN P j)), (1, .ref (rN P i))] rfl (Nat.le_of_ble_eq_true rfl) ?_
  intro p e s m args below meth cd C
  refine v_aload_n C 0 dX1_copyFrom_0 rfl ?_
  refine v_aload_n C 1 dX1_copyFrom_1 rfl ?_
  refine v_gNu C hi 0 (by decide) k_35 (by rw [va_up_ne _ _ hne]; rfl) dX1_copyFrom_2 ?_
  refine v_pN C hj 0 (by decide) k_35 dX1_copyFrom_5 ?_
  refine v_aload_n C 0 dX1_copyFrom_8 rfl ?_
  refine v_aload_n C 1 dX1_copyFrom_9 rfl ?_
  refine v_gNu C hi 1 (by decide) k_36 (by rw [va_up_ne _ _ hne]; rfl) dX1_copyFrom_10 ?_
  refine v_pN C hj 1 (by decide) k_36 dX1_copyFrom_13 ?_
  refine v_aload_n C 0 dX1_copyFrom_16 rfl ?_
  refine v_aload_n C 1 dX1_copyFrom_17 rfl ?_
  refine v_gNu C hi 2 (by decide) k_38 (by rw [va_up_ne _ _ hne]; rfl) dX1_copyFrom_18 ?_
  refine v_pN C hj 2 (by decide) k_38 dX1_copyFrom_21 ?_
  refine v_aload_n C 0 dX1_copyFrom_24 rfl ?_
  refine v_aload_n C 1 dX1_copyFrom_25 rfl ?_
  refine v_gNu C hi 3 (by decide) k_41 (by rw [va_up_ne _ _ hne]; rfl) dX1_copyFrom_26 ?_
  refine v_pN C hj 3 (by decide) k_41 dX1_copyFrom_29 ?_
  refine v_aload_n C 0 dX1_copyFrom_32 rfl ?_
  refine v_aload_n C 1 dX1_copyFrom_33 rfl ?_
  refine v_gNu C hi 4 (by decide) k_43 (by rw [va_up_ne _ _ hne]; rfl) dX1_copyFrom_34 ?_
  refine v_pN C hj 4 (by decide) k_43 dX1_copyFrom_37 ?_
  refine v_aload_n C 0 dX1_copyFrom_40 rfl ?_
  refine v_aload_n C 1 dX1_copyFrom_41 rfl ?_
  refine v_gNu C hi 5 (by decide) k_44 (by rw [va_up_ne _ _ hne]; rfl) dX1_copyFrom_42 ?_
  refine v_pN C hj 5 (by decide) k_44 dX1_copyFrom_45 ?_
  refine v_aload_n C 0 dX1_copyFrom_48 rfl ?_
  refine v_aload_n C 1 dX1_copyFrom_49 rfl ?_
  refine v_gNu C hi 6 (by decide) k_46 (by rw [va_up_ne _ _ hne]; rfl) dX1_copyFrom_50 ?_
  refine v_pN C hj 6 (by decide) k_46 dX1_copyFrom_53 ?_
  refine v_aload_n C 0 dX1_copyFrom_56 rfl ?_
  refine v_aload_n C 1 dX1_copyFrom_57 rfl ?_
  refine v_gNu C hi 7 (by decide) k_48 (by rw [va_up_ne _ _ hne]; rfl) dX1_copyFrom_58 ?_
  refine v_pN C hj 7 (by decide) k_48 dX1_copyFrom_61 ?_
  refine v_aload_n C 0 dX1_copyFrom_64 rfl ?_
  refine v_aload_n C 1 dX1_copyFrom_65 rfl ?_
  refine v_gNu C hi 8 (by decide) k_52 (by rw [va_up_ne _ _ hne]; rfl) dX1_copyFrom_66 ?_
  refine v_pN C hj 8 (by decide) k_52 dX1_copyFrom_69 ?_
  refine v_aload_n C 0 dX1_copyFrom_72 rfl ?_
  refine v_aload_n C 1 dX1_copyFrom_73 rfl ?_
  refine v_gNu C hi 9 (by decide) k_54 (by rw [va_up_ne _ _ hne]; rfl) dX1_copyFrom_74 ?_
  refine v_pN C hj 9 (by decide) k_54 dX1_copyFrom_77 ?_
  refine v_aload_n C 0 dX1_copyFrom_80 rfl ?_
  refine v_aload_n C 1 dX1_copyFrom_81 rfl ?_
  refine v_gNu C hi 10 (by decide) k_55 (by rw [va_up_ne _ _ hne]; rfl) dX1_copyFrom_82 ?_
  refine v_pN C hj 10 (by decide) k_55 dX1_copyFrom_85 ?_
  refine v_aload_n C 0 dX1_copyFrom_88 rfl ?_
  refine v_aload_n C 1 dX1_copyFrom_89 rfl ?_
  refine v_gNu C hi 11 (by decide) k_56 (by rw [va_up_ne _ _ hne]; rfl) dX1_copyFrom_90 ?_
  refine v_pN C hj 11 (by decide) k_56 dX1_copyFrom_93 ?_
  refine v_iconst (v := 0) C dX1_copyFrom_96 rfl ?_
  refine v_istore_n (lv' := [(2, .int 0), (0, .ref (rN P j)), (1, .ref (rN P i))]) C dX1_copyFrom_97 rfl (by decide) rfl ?_
  refine v_iload_n C 0 dX1_copyFrom_98 rfl ?_
  refine v_iconst (v := 4) C dX1_copyFrom_99 rfl ?_
  refine v_icmp_ge (tgt := 133) C dX1_copyFrom_100 (by decide) (fun h9 => absurd h9 (by decide)) (fun _ => ?_)
  refine v_aload_n C 1 dX1_copyFrom_103 rfl ?_
  refine v_gN C hj 12 (by decide) k_57 rfl dX1_copyFrom_104 ?_
  refine v_iload_n C 0 dX1_copyFrom_107 rfl ?_
  refine v_aload_n C 2 dX1_copyFrom_108 rfl ?_
  refine v_gNu C hi 12 (by decide) k_57 (by rw [va_up_ne _ _ hne]; rfl) dX1_copyFrom_109 ?_
  refine v_iload_n C 0 dX1_copyFrom_112 rfl ?_
  refine v_ldLuk C 0 hi tn_0 in4_0 (by rw [va_up_ne _ _ hne]) dX1_copyFrom_113 ?_
  refine v_stLk C 0 hj tn_0 in4_0 dX1_copyFrom_114 ?_
  refine v_aload_n C 1 dX1_copyFrom_115 rfl ?_
  refine v_gN C hj 13 (by decide) k_59 rfl dX1_copyFrom_116 ?_
  refine v_iload_n C 0 dX1_copyFrom_119 rfl ?_
  refine v_aload_n C 2 dX1_copyFrom_120 rfl ?_
  refine v_gNu C hi 13 (by decide) k_59 (by rw [va_up_ne _ _ hne]; rfl) dX1_copyFrom_121 ?_
  refine v_iload_n C 0 dX1_copyFrom_124 rfl ?_
  refine v_ldBuk C 0 hi tn_0 in4_0 (by rw [va_up_ne _ _ hne]) dX1_copyFrom_125 ?_
  refine v_stBk C 0 hj tn_0 in4_0 dX1_copyFrom_126 ?_
  refine v_iinc (b := 1) (lv' := [(2, .int 1), (0, .ref (rN P j)), (1, .ref (rN P i))]) C 0 dX1_copyFrom_127 rfl rfl (by decide) rfl ?_
  refine v_goto (tgt := 98) C dX1_copyFrom_130 (by decide) ?_
  refine v_iload_n C 0 dX1_copyFrom_98 rfl ?_
  refine v_iconst (v := 4) C dX1_copyFrom_99 rfl ?_
  refine v_icmp_ge (tgt := 133) C dX1_copyFrom_100 (by decide) (fun h9 => absurd h9 (by decide)) (fun _ => ?_)
  refine v_aload_n C 1 dX1_copyFrom_103 rfl ?_
  refine v_gN C hj 12 (by decide) k_57 rfl dX1_copyFrom_104 ?_
  refine v_iload_n C 0 dX1_copyFrom_107 rfl ?_
  refine v_aload_n C 2 dX1_copyFrom_108 rfl ?_
  refine v_gNu C hi 12 (by decide) k_57 (by rw [va_up_ne _ _ hne]; rfl) dX1_copyFrom_109 ?_
  refine v_iload_n C 0 dX1_copyFrom_112 rfl ?_
  refine v_ldLuk C 1 hi tn_1 in4_1 (by rw [va_up_ne _ _ hne]) dX1_copyFrom_113 ?_
  refine v_stLk C 1 hj tn_1 in4_1 dX1_copyFrom_114 ?_
  refine v_aload_n C 1 dX1_copyFrom_115 rfl ?_
  refine v_gN C hj 13 (by decide) k_59 rfl dX1_copyFrom_116 ?_
  refine v_iload_n C 0 dX1_copyFrom_119 rfl ?_
  refine v_aload_n C 2 dX1_copyFrom_120 rfl ?_
  refine v_gNu C hi 13 (by decide) k_59 (by rw [va_up_ne _ _ hne]; rfl) dX1_copyFrom_121 ?_
  refine v_iload_n C 0 dX1_copyFrom_124 rfl ?_
  refine v_ldBuk C 1 hi tn_1 in4_1 (by rw [va_up_ne _ _ hne]) dX1_copyFrom_125 ?_
  refine v_stBk C 1 hj tn_1 in4_1 dX1_copyFrom_126 ?_
  refine v_iinc (b := 2) (lv' := [(2, .int 2), (0, .ref (rN P j)), (1, .ref (rN P i))]) C 0 dX1_copyFrom_127 rfl rfl (by decide) rfl ?_
  refine v_goto (tgt := 98) C dX1_copyFrom_130 (by decide) ?_
  refine v_iload_n C 0 dX1_copyFrom_98 rfl ?_
  refine v_iconst (v := 4) C dX1_copyFrom_99 rfl ?_
  refine v_icmp_ge (tgt := 133) C dX1_copyFrom_100 (by decide) (fun h9 => absurd h9 (by decide)) (fun _ => ?_)
  refine v_aload_n C 1 dX1_copyFrom_103 rfl ?_
  refine v_gN C hj 12 (by decide) k_57 rfl dX1_copyFrom_104 ?_
  refine v_iload_n C 0 dX1_copyFrom_107 rfl ?_
  refine v_aload_n C 2 dX1_copyFrom_108 rfl ?_
  refine v_gNu C hi 12 (by decide) k_57 (by rw [va_up_ne _ _ hne]; rfl) dX1_copyFrom_109 ?_
  refine v_iload_n C 0 dX1_copyFrom_112 rfl ?_
  refine v_ldLuk C 2 hi tn_2 in4_2 (by rw [va_up_ne _ _ hne]) dX1_copyFrom_113 ?_
  refine v_stLk C 2 hj tn_2 in4_2 dX1_copyFrom_114 ?_
  refine v_aload_n C 1 dX1_copyFrom_115 rfl ?_
  refine v_gN C hj 13 (by decide) k_59 rfl dX1_copyFrom_116 ?_
  refine v_iload_n C 0 dX1_copyFrom_119 rfl ?_
  refine v_aload_n C 2 dX1_copyFrom_120 rfl ?_
  refine v_gNu C hi 13 (by decide) k_59 (by rw [va_up_ne _ _ hne]; rfl) dX1_copyFrom_121 ?_
  refine v_iload_n C 0 dX1_copyFrom_124 rfl ?_
  refine v_ldBuk C 2 hi tn_2 in4_2 (by rw [va_up_ne _ _ hne]) dX1_copyFrom_125 ?_
  refine v_stBk C 2 hj tn_2 in4_2 dX1_copyFrom_126 ?_
  refine v_iinc (b := 3) (lv' := [(2, .int 3), (0, .ref (rN P j)), (1, .ref (rN P i))]) C 0 dX1_copyFrom_127 rfl rfl (by decide) rfl ?_
  refine v_goto (tgt := 98) C dX1_copyFrom_130 (by decide) ?_
  refine v_iload_n C 0 dX1_copyFrom_98 rfl ?_
  refine v_iconst (v := 4) C dX1_copyFrom_99 rfl ?_
  refine v_icmp_ge (tgt := 133) C dX1_copyFrom_100 (by decide) (fun h9 => absurd h9 (by decide)) (fun _ => ?_)
  refine v_aload_n C 1 dX1_copyFrom_103 rfl ?_
  refine v_gN C hj 12 (by decide) k_57 rfl dX1_copyFrom_104 ?_
  refine v_iload_n C 0 dX1_copyFrom_107 rfl ?_
  refine v_aload_n C 2 dX1_copyFrom_108 rfl ?_
  refine v_gNu C hi 12 (by decide) k_57 (by rw [va_up_ne _ _ hne]; rfl) dX1_copyFrom_109 ?_
  refine v_iload_n C 0 dX1_copyFrom_112 rfl ?_
  refine v_ldLuk C 3 hi tn_3 in4_3 (by rw [va_up_ne _ _ hne]) dX1_copyFrom_113 ?_
  refine v_stLk C 3 hj tn_3 in4_3 dX1_copyFrom_114 ?_
  refine v_aload_n C 1 dX1_copyFrom_115 rfl ?_
  refine v_gN C hj 13 (by decide) k_59 rfl dX1_copyFrom_116 ?_
  refine v_iload_n C 0 dX1_copyFrom_119 rfl ?_
  refine v_aload_n C 2 dX1_copyFrom_120 rfl ?_
  refine v_gNu C hi 13 (by decide) k_59 (by rw [va_up_ne _ _ hne]; rfl) dX1_copyFrom_121 ?_
  refine v_iload_n C 0 dX1_copyFrom_124 rfl ?_
  refine v_ldBuk C 3 hi tn_3 in4_3 (by rw [va_up_ne _ _ hne]) dX1_copyFrom_125 ?_
  refine v_stBk C 3 hj tn_3 in4_3 dX1_copyFrom_126 ?_
  refine v_iinc (b := 4) (lv' := [(2, .int 4), (0, .ref (rN P j)), (1, .ref (rN P i))]) C 0 dX1_copyFrom_127 rfl rfl (by decide) rfl ?_
  refine v_goto (tgt := 98) C dX1_copyFrom_130 (by decide) ?_
  refine v_iload_n C 0 dX1_copyFrom_98 rfl ?_
  refine v_iconst (v := 4) C dX1_copyFrom_99 rfl ?_
  refine v_icmp_ge (tgt := 133) C dX1_copyFrom_100 (by decide) (fun _ => ?_) (fun h9 => absurd (by decide) h9)
  exact v_vret C dX1_copyFrom_133 (cw_cN (lt20 ⟨rfl, rfl, rfl, rfl, rfl, rfl, rfl, rfl, rfl, rfl, rfl, rfl, rfl, rfl, rfl, rfl, rfl, rfl, rfl, rfl⟩))
set_option maxHeartbeats 4000000 in
set_option maxRecDepth 100000 in
theorem c_X0_copyFrom {l : Launch} {P : L5} {D : va_G} {N F T : Nat → Nat → Int32} {K : Nat → Int32} {A : Nat → Nat → Int32} {w : Int64} {i : Nat} (hi : i < 8) {g : Nat → Int32} {j : Nat} (hj : j < 8) (hne : j ≠ i) : CtV l yX0_copyFrom cX0_copyFrom 2 1 0 0 P D 97 97 False (cw P N (va_up F i g) T K A w) (cw P N (va_up F i (F j)) T K A w) [.ref (rF P i), .ref (rF P j)] := by
  refine mk_Met pl_X0 [(0, .ref (rF P i)), (1, .ref (rF P j))] rfl (Nat.le_of_ble_eq_true rfl) ?_
  intro p e s m args below meth cd C
  refine v_aload_n C 0 dX0_copyFrom_0 rfl ?_
  refine v_aload_n C 1 dX0_copyFrom_1 rfl ?_
  refine v_gFu C hj 0 (by decide) k_99 (by rw [va_up_ne _ _ hne]; rfl) dX0_copyFrom_2 ?_
  refine v_pF C hi 0 (by decide) k_99 dX0_copyFrom_5 ?_
  refine v_aload_n C 0 dX0_copyFrom_8 rfl ?_
  refine v_aload_n C 1 dX0_copyFrom_9 rfl ?_
  refine v_gFu C hj 1 (by decide) k_102 (by rw [va_up_ne _ _ hne]; rfl) dX0_copyFrom_10 ?_
  refine v_pF C hi 1 (by decide) k_102 dX0_copyFrom_13 ?_
  refine v_aload_n C 0 dX0_copyFrom_16 rfl ?_
  refine v_aload_n C 1 dX0_copyFrom_17 rfl ?_
  refine v_gFu C hj 2 (by decide) k_104 (by rw [va_up_ne _ _ hne]; rfl) dX0_copyFrom_18 ?_
  refine v_pF C hi 2 (by decide) k_104 dX0_copyFrom_21 ?_
  refine v_aload_n C 0 dX0_copyFrom_24 rfl ?_
  refine v_aload_n C 1 dX0_copyFrom_25 rfl ?_
  refine v_gFu C hj 3 (by decide) k_106 (by rw [va_up_ne _ _ hne]; rfl) dX0_copyFrom_26 ?_
  refine v_pF C hi 3 (by decide) k_106 dX0_copyFrom_29 ?_
  refine v_aload_n C 0 dX0_copyFrom_32 rfl ?_
  refine v_aload_n C 1 dX0_copyFrom_33 rfl ?_
  refine v_gFu C hj 4 (by decide) k_108 (by rw [va_up_ne _ _ hne]; rfl) dX0_copyFrom_34 ?_
  refine v_pF C hi 4 (by decide) k_108 dX0_copyFrom_37 ?_
  refine v_aload_n C 0 dX0_copyFrom_40 rfl ?_
  refine v_aload_n C 1 dX0_copyFrom_41 rfl ?_
  refine v_gFu C hj 5 (by decide) k_110 (by rw [va_up_ne _ _ hne]; rfl) dX0_copyFrom_42 ?_
  refine v_pF C hi 5 (by decide) k_110 dX0_copyFrom_45 ?_
  exact v_vret C dX0_copyFrom_48 (cw_cF (lt6 ⟨rfl, rfl, rfl, rfl, rfl, rfl⟩))
set_option maxHeartbeats 4000000 in
set_option maxRecDepth 100000 in
theorem c_X0_deliver {l : Launch} {P : L5} {D : va_G} {N F T : Nat → Nat → Int32} {K : Nat → Int32} {A : Nat → Nat → Int32} {w : Int64} {i : Nat} (hi : i < 8) {g : Nat → Int32} : CtV l yX0_deliver cX0_deliver 1 1 0 0 P D 97 97 False (cw P N (va_up F i g) T K A w) (cw P N (va_up F i (dlv g)) T K A w) [.ref (rF P i)] := by
  refine mk_Met pl_X0 [(0, .ref (rF P i))] rfl (Nat.le_of_ble_eq_true rfl) ?_
  intro p e s m args below meth cd C
  refine v_aload_n C 0 dX0_deliver_0 rfl ?_
  refine v_dup C dX0_deliver_1 rfl ?_
  refine v_gF C hi 1 (by decide) k_102 rfl dX0_deliver_2 ?_
  refine v_aload_n C 0 dX0_deliver_5 rfl ?_
  refine v_gF C hi 5 (by decide) k_110 rfl dX0_deliver_6 ?_
  refine v_iadd C dX0_deliver_9 ?_
  refine v_pF C hi 1 (by decide) k_102 dX0_deliver_10 ?_
  refine v_aload_n C 0 dX0_deliver_13 rfl ?_
  refine v_dup C dX0_deliver_14 rfl ?_
  refine v_gF C hi 4 (by decide) k_108 rfl dX0_deliver_15 ?_
  refine v_aload_n C 0 dX0_deliver_18 rfl ?_
  refine v_gF C hi 5 (by decide) k_110 rfl dX0_deliver_19 ?_
  refine v_iadd C dX0_deliver_22 ?_
  refine v_pF C hi 4 (by decide) k_108 dX0_deliver_23 ?_
  refine v_aload_n C 0 dX0_deliver_26 rfl ?_
  refine v_iconst (v := 0) C dX0_deliver_27 rfl ?_
  refine v_pF C hi 5 (by decide) k_110 dX0_deliver_28 ?_
  exact v_vret C dX0_deliver_31 rfl
set_option maxHeartbeats 4000000 in
set_option maxRecDepth 100000 in
theorem c_X0_collectDebt {l : Launch} {P : L5} {D : va_G} {N F T : Nat → Nat → Int32} {K : Nat → Int32} {A : Nat → Nat → Int32} {w : Int64} {i : Nat} (hi : i < 8) {g : Nat → Int32} {j : Nat} (hj : j < 25) {v : Nat → Int32} : CtV l yX0_collectDebt cX0_collectDebt 3 1 0 0 P D 97 97 False (cw P (va_up N j v) (va_up F i g) T K A w) (cw P (va_up N j (colV v)) (va_up F i (colG v g)) T K A w) [.ref (rF P i), .ref (rN P j)] := by
  refine mk_Met pl_X0 [(0, .ref (rF P i)), (1, .ref (rN P j))] rfl (Nat.le_of_ble_eq_true rfl) ?_
  intro p e s m args below meth cd C
  refine v_aload_n C 1 dX0_collectDebt_0 rfl ?_
  refine v_gNN C hj 8 (by decide) (List.mem_of_getElem? (i := 9) rfl) rfl dX0_collectDebt_1 ?_
  refine v_aload_n C 1 dX0_collectDebt_4 rfl ?_
  refine v_gNN C hj 7 (by decide) (List.mem_of_getElem? (i := 6) rfl) rfl dX0_collectDebt_5 ?_
  refine v_min C dX0_collectDebt_8 k_450 k_417 k_12 k_418 (Nat.le_of_ble_eq_true rfl) (Nat.le_of_ble_eq_true rfl) (Nat.le_of_ble_eq_true rfl) (Nat.le_of_ble_eq_true rfl) ?_
  refine v_top (fun x_1 ex_1 => ?_)
  refine v_istore_n (lv' := [(2, .int x_1), (0, .ref (rF P i)), (1, .ref (rN P j))]) C dX0_collectDebt_11 rfl (by decide) rfl ?_
  refine v_aload_n C 2 dX0_collectDebt_12 rfl ?_
  refine v_dup C dX0_collectDebt_13 rfl ?_
  refine v_gNN C hj 8 (by decide) (List.mem_of_getElem? (i := 9) rfl) rfl dX0_collectDebt_14 ?_
  refine v_iload_n C 0 dX0_collectDebt_17 rfl ?_
  refine v_isub C dX0_collectDebt_18 ?_
  refine v_pNN C hj 8 (by decide) (List.mem_of_getElem? (i := 9) rfl) dX0_collectDebt_19 ?_
  refine v_aload_n C 2 dX0_collectDebt_22 rfl ?_
  refine v_dup C dX0_collectDebt_23 rfl ?_
  refine v_gNN C hj 7 (by decide) (List.mem_of_getElem? (i := 6) rfl) rfl dX0_collectDebt_24 ?_
  refine v_iload_n C 0 dX0_collectDebt_27 rfl ?_
  refine v_isub C dX0_collectDebt_28 ?_
  refine v_pNN C hj 7 (by decide) (List.mem_of_getElem? (i := 6) rfl) dX0_collectDebt_29 ?_
  refine v_aload_n C 1 dX0_collectDebt_32 rfl ?_
  refine v_dup C dX0_collectDebt_33 rfl ?_
  refine v_gF C hi 1 (by decide) k_102 rfl dX0_collectDebt_34 ?_
  refine v_iload_n C 0 dX0_collectDebt_37 rfl ?_
  refine v_iadd C dX0_collectDebt_38 ?_
  refine v_pF C hi 1 (by decide) k_102 dX0_collectDebt_39 ?_
  exact v_vret C dX0_collectDebt_42 (by rw [ex_1]; rfl)
set_option maxHeartbeats 4000000 in
set_option maxRecDepth 100000 in
theorem c_X0_buyBags {l : Launch} {P : L5} {D : va_G} {N F T : Nat → Nat → Int32} {K : Nat → Int32} {A : Nat → Nat → Int32} {w : Int64} {i : Nat} (hi : i < 8) {g : Nat → Int32} {j : Nat} (hj : j < 25) {v : Nat → Int32} : CtV l yX0_buyBags cX0_buyBags 4 1 0 0 P D 97 97 False (cw P (va_up N j v) (va_up F i g) T K A w) (cw P (va_up N j (buyB v g).1) (va_up F i (buyB v g).2) T K A w) [.ref (rF P i), .ref (rN P j)] := by
  refine mk_Met pl_X0 [(0, .ref (rF P i)), (1, .ref (rN P j))] rfl (Nat.le_of_ble_eq_true rfl) ?_
  intro p e s m args below meth cd C
  refine v_iconst (v := 0) C dX0_buyBags_0 rfl ?_
  refine v_istore_n (lv' := [(2, .int 0), (0, .ref (rF P i)), (1, .ref (rN P j))]) C dX0_buyBags_1 rfl (by decide) rfl ?_
  refine v_iload_n C 0 dX0_buyBags_2 rfl ?_
  refine v_iconst (v := 4) C dX0_buyBags_3 rfl ?_
  refine v_icmp_ge (tgt := 114) C dX0_buyBags_4 (by decide) (fun h9 => absurd h9 (by decide)) (fun _ => ?_)
  refine v_gSN C 1 rfl (List.mem_of_getElem? (i := 23) rfl) dX0_buyBags_7 ?_
  refine v_iload_n C 0 dX0_buyBags_10 rfl ?_
  refine v_ldSk C 1 rfl 0 tn_0 in4_0 rfl dX0_buyBags_11 ?_
  refine v_bipush (v := 100) C dX0_buyBags_12 rfl ?_
  refine v_aload_n C 1 dX0_buyBags_14 rfl ?_
  refine v_gF C hi 0 (by decide) k_99 rfl dX0_buyBags_15 ?_
  refine v_isub C dX0_buyBags_18 ?_
  refine v_imul C dX0_buyBags_19 ?_
  refine v_bipush (v := 100) C dX0_buyBags_20 rfl ?_
  refine v_idiv C dX0_buyBags_22 (by decide) ?_
  refine v_top (fun x_1 ex_1 => ?_)
  refine v_istore_n (lv' := [(3, .int x_1), (2, .int 0), (0, .ref (rF P i)), (1, .ref (rN P j))]) C dX0_buyBags_23 rfl (by decide) rfl ?_
  have L_1 : ∀ (n : Nat) (v9 g9 : Nat → Int32), (v9 (16 + 0)).toNatClampNeg < n → V p l e (rmO 1 0 0) s m args below meth cd P D (MQ below (QcV P D 97 False (cw P (va_up N j (buyB v g).1) (va_up F i (buyB v g).2) T K A w)) args s 0 0 (aO P)) 4 97 False (cw P (va_up N j (bagL n x_1 0 v9 g9).1) (va_up F i (bagL n x_1 0 v9 g9).2) T K A w) 0 0 108 [(3, .int x_1), (2, .int 0), (0, .ref (rF P i)), (1, .ref (rN P j))] [] → V p l e (rmO 1 0 0) s m args below meth cd P D (MQ below (QcV P D 97 False (cw P (va_up N j (buyB v g).1) (va_up F i (buyB v g).2) T K A w)) args s 0 0 (aO P)) 4 97 False (cw P (va_up N j v9) (va_up F i g9) T K A w) 0 0 24 [(3, .int x_1), (2, .int 0), (0, .ref (rF P i)), (1, .ref (rN P j))] [] := by
    intro n
    induction n with
    | zero => intro v9 g9 h9; exact absurd h9 (Nat.not_lt_zero _)
    | succ n ih =>
      intro v9 g9 h9 hk9
      refine v_aload_n C 3 dX0_buyBags_24 rfl ?_
      refine v_gNN C hj 13 (by decide) (List.mem_of_getElem? (i := 11) rfl) rfl dX0_buyBags_25 ?_
      refine v_iload_n C 1 dX0_buyBags_28 rfl ?_
      refine v_ldBk C 0 hj tn_0 in4_0 dX0_buyBags_29 ?_
      refine v_if_le (tgt := 108) C dX0_buyBags_30 (by decide) (fun h30_1 => ?_) (fun h30_1 => ?_)
      · have e9 : bagL (n + 1) x_1 0 v9 g9 = (v9, g9) := by rw [bagL, if_pos (by exact h30_1)]
        rw [e9] at hk9
        exact hk9
      · refine v_aload_n C 2 dX0_buyBags_33 rfl ?_
        refine v_gF C hi 1 (by decide) k_102 rfl dX0_buyBags_34 ?_
        refine v_iload_n C 0 dX0_buyBags_37 rfl ?_
        refine v_icmp_lt (tgt := 108) C dX0_buyBags_38 (by decide) (fun h38_1 => ?_) (fun h38_1 => ?_)
        · have e9 : bagL (n + 1) x_1 0 v9 g9 = (v9, g9) := by rw [bagL, if_neg (by exact h30_1), if_pos (by exact h38_1)]
          rw [e9] at hk9
          exact hk9
        · refine v_aload_n C 3 dX0_buyBags_41 rfl ?_
          refine v_gNN C hj 13 (by decide) (List.mem_of_getElem? (i := 11) rfl) rfl dX0_buyBags_42 ?_
          refine v_iload_n C 1 dX0_buyBags_45 rfl ?_
          refine v_dup2 C dX0_buyBags_46 rfl rfl ?_
          refine v_ldBk C 0 hj tn_0 in4_0 dX0_buyBags_47 ?_
          refine v_iconst (v := 1) C dX0_buyBags_48 rfl ?_
          refine v_isub C dX0_buyBags_49 ?_
          refine v_stBk C 0 hj tn_0 in4_0 dX0_buyBags_50 ?_
          refine v_aload_n C 3 dX0_buyBags_51 rfl ?_
          refine v_dup C dX0_buyBags_52 rfl ?_
          refine v_gNN C hj 7 (by decide) (List.mem_of_getElem? (i := 6) rfl) rfl dX0_buyBags_53 ?_
          refine v_iload_n C 0 dX0_buyBags_56 rfl ?_
          refine v_iadd C dX0_buyBags_57 ?_
          refine v_pNN C hj 7 (by decide) (List.mem_of_getElem? (i := 6) rfl) dX0_buyBags_58 ?_
          refine v_aload_n C 2 dX0_buyBags_61 rfl ?_
          refine v_dup C dX0_buyBags_62 rfl ?_
          refine v_gF C hi 1 (by decide) k_102 rfl dX0_buyBags_63 ?_
          refine v_iload_n C 0 dX0_buyBags_66 rfl ?_
          refine v_isub C dX0_buyBags_67 ?_
          refine v_pF C hi 1 (by decide) k_102 dX0_buyBags_68 ?_
          refine v_aload_n C 2 dX0_buyBags_71 rfl ?_
          refine v_dup C dX0_buyBags_72 rfl ?_
          refine v_gF C hi 3 (by decide) k_106 rfl dX0_buyBags_73 ?_
          refine v_iload_n C 0 dX0_buyBags_76 rfl ?_
          refine v_iadd C dX0_buyBags_77 ?_
          refine v_pF C hi 3 (by decide) k_106 dX0_buyBags_78 ?_
          refine v_aload_n C 2 dX0_buyBags_81 rfl ?_
          refine v_dup C dX0_buyBags_82 rfl ?_
          refine v_gF C hi 2 (by decide) k_104 rfl dX0_buyBags_83 ?_
          refine v_iconst (v := 1) C dX0_buyBags_86 rfl ?_
          refine v_iadd C dX0_buyBags_87 ?_
          refine v_pF C hi 2 (by decide) k_104 dX0_buyBags_88 ?_
          refine v_aload_n C 2 dX0_buyBags_91 rfl ?_
          refine v_dup C dX0_buyBags_92 rfl ?_
          refine v_gF C hi 5 (by decide) k_110 rfl dX0_buyBags_93 ?_
          refine v_gSN C 1 rfl (List.mem_of_getElem? (i := 23) rfl) dX0_buyBags_96 ?_
          refine v_iload_n C 1 dX0_buyBags_99 rfl ?_
          refine v_ldSk C 1 rfl 0 tn_0 in4_0 rfl dX0_buyBags_100 ?_
          refine v_iadd C dX0_buyBags_101 ?_
          refine v_pF C hi 5 (by decide) k_110 dX0_buyBags_102 ?_
          refine v_goto (tgt := 24) C dX0_buyBags_105 (by decide) ?_
          have e9 : bagL (n + 1) x_1 0 v9 g9 = bagL n x_1 0 (bag1 x_1 0 v9) (bag2 x_1 0 g9) := by rw [bagL, if_neg (by exact h30_1), if_neg (by exact h38_1)]
          rw [e9] at hk9
          refine v_eq (f' := (cw P (va_up N j (bag1 x_1 0 v9)) (va_up F i (bag2 x_1 0 g9)) T K A w)) rfl ?_
          exact ih (bag1 x_1 0 v9) (bag2 x_1 0 g9) (by rw [bag1_dec]; exact dec_lt h9 (by exact h30_1)) hk9
  refine L_1 ((v (16 + 0)).toNatClampNeg + 1) v g (Nat.lt_succ_self _) ?_
  rw [show bagL ((v (16 + 0)).toNatClampNeg + 1) x_1 0 v g = buyK 0 (v, g) by rw [ex_1]; rfl]
  obtain ⟨q1, hq1⟩ : ∃ q, q = buyK 0 (v, g) := ⟨_, rfl⟩
  rw [← hq1]
  refine v_iinc (b := 1) (lv' := [(2, .int 1), (3, .int x_1), (0, .ref (rF P i)), (1, .ref (rN P j))]) C 1 dX0_buyBags_108 rfl rfl (by decide) rfl ?_
  refine v_goto (tgt := 2) C dX0_buyBags_111 (by decide) ?_
  refine v_iload_n C 0 dX0_buyBags_2 rfl ?_
  refine v_iconst (v := 4) C dX0_buyBags_3 rfl ?_
  refine v_icmp_ge (tgt := 114) C dX0_buyBags_4 (by decide) (fun h9 => absurd h9 (by decide)) (fun _ => ?_)
  refine v_gSN C 1 rfl (List.mem_of_getElem? (i := 23) rfl) dX0_buyBags_7 ?_
  refine v_iload_n C 0 dX0_buyBags_10 rfl ?_
  refine v_ldSk C 1 rfl 1 tn_1 in4_1 rfl dX0_buyBags_11 ?_
  refine v_bipush (v := 100) C dX0_buyBags_12 rfl ?_
  refine v_aload_n C 2 dX0_buyBags_14 rfl ?_
  refine v_gF C hi 0 (by decide) k_99 rfl dX0_buyBags_15 ?_
  refine v_isub C dX0_buyBags_18 ?_
  refine v_imul C dX0_buyBags_19 ?_
  refine v_bipush (v := 100) C dX0_buyBags_20 rfl ?_
  refine v_idiv C dX0_buyBags_22 (by decide) ?_
  refine v_top (fun x_2 ex_2 => ?_)
  refine v_istore_n (lv' := [(3, .int x_2), (2, .int 1), (0, .ref (rF P i)), (1, .ref (rN P j))]) C dX0_buyBags_23 rfl (by decide) rfl ?_
  have L_2 : ∀ (n : Nat) (v9 g9 : Nat → Int32), (v9 (16 + 1)).toNatClampNeg < n → V p l e (rmO 1 0 0) s m args below meth cd P D (MQ below (QcV P D 97 False (cw P (va_up N j (buyB v g).1) (va_up F i (buyB v g).2) T K A w)) args s 0 0 (aO P)) 4 97 False (cw P (va_up N j (bagL n x_2 1 v9 g9).1) (va_up F i (bagL n x_2 1 v9 g9).2) T K A w) 0 0 108 [(3, .int x_2), (2, .int 1), (0, .ref (rF P i)), (1, .ref (rN P j))] [] → V p l e (rmO 1 0 0) s m args below meth cd P D (MQ below (QcV P D 97 False (cw P (va_up N j (buyB v g).1) (va_up F i (buyB v g).2) T K A w)) args s 0 0 (aO P)) 4 97 False (cw P (va_up N j v9) (va_up F i g9) T K A w) 0 0 24 [(3, .int x_2), (2, .int 1), (0, .ref (rF P i)), (1, .ref (rN P j))] [] := by
    intro n
    induction n with
    | zero => intro v9 g9 h9; exact absurd h9 (Nat.not_lt_zero _)
    | succ n ih =>
      intro v9 g9 h9 hk9
      refine v_aload_n C 3 dX0_buyBags_24 rfl ?_
      refine v_gNN C hj 13 (by decide) (List.mem_of_getElem? (i := 11) rfl) rfl dX0_buyBags_25 ?_
      refine v_iload_n C 1 dX0_buyBags_28 rfl ?_
      refine v_ldBk C 1 hj tn_1 in4_1 dX0_buyBags_29 ?_
      refine v_if_le (tgt := 108) C dX0_buyBags_30 (by decide) (fun h30_2 => ?_) (fun h30_2 => ?_)
      · have e9 : bagL (n + 1) x_2 1 v9 g9 = (v9, g9) := by rw [bagL, if_pos (by exact h30_2)]
        rw [e9] at hk9
        exact hk9
      · refine v_aload_n C 2 dX0_buyBags_33 rfl ?_
        refine v_gF C hi 1 (by decide) k_102 rfl dX0_buyBags_34 ?_
        refine v_iload_n C 0 dX0_buyBags_37 rfl ?_
        refine v_icmp_lt (tgt := 108) C dX0_buyBags_38 (by decide) (fun h38_2 => ?_) (fun h38_2 => ?_)
        · have e9 : bagL (n + 1) x_2 1 v9 g9 = (v9, g9) := by rw [bagL, if_neg (by exact h30_2), if_pos (by exact h38_2)]
          rw [e9] at hk9
          exact hk9
        · refine v_aload_n C 3 dX0_buyBags_41 rfl ?_
          refine v_gNN C hj 13 (by decide) (List.mem_of_getElem? (i := 11) rfl) rfl dX0_buyBags_42 ?_
          refine v_iload_n C 1 dX0_buyBags_45 rfl ?_
          refine v_dup2 C dX0_buyBags_46 rfl rfl ?_
          refine v_ldBk C 1 hj tn_1 in4_1 dX0_buyBags_47 ?_
          refine v_iconst (v := 1) C dX0_buyBags_48 rfl ?_
          refine v_isub C dX0_buyBags_49 ?_
          refine v_stBk C 1 hj tn_1 in4_1 dX0_buyBags_50 ?_
          refine v_aload_n C 3 dX0_buyBags_51 rfl ?_
          refine v_dup C dX0_buyBags_52 rfl ?_
          refine v_gNN C hj 7 (by decide) (List.mem_of_getElem? (i := 6) rfl) rfl dX0_buyBags_53 ?_
          refine v_iload_n C 0 dX0_buyBags_56 rfl ?_
          refine v_iadd C dX0_buyBags_57 ?_
          refine v_pNN C hj 7 (by decide) (List.mem_of_getElem? (i := 6) rfl) dX0_buyBags_58 ?_
          refine v_aload_n C 2 dX0_buyBags_61 rfl ?_
          refine v_dup C dX0_buyBags_62 rfl ?_
          refine v_gF C hi 1 (by decide) k_102 rfl dX0_buyBags_63 ?_
          refine v_iload_n C 0 dX0_buyBags_66 rfl ?_
          refine v_isub C dX0_buyBags_67 ?_
          refine v_pF C hi 1 (by decide) k_102 dX0_buyBags_68 ?_
          refine v_aload_n C 2 dX0_buyBags_71 rfl ?_
          refine v_dup C dX0_buyBags_72 rfl ?_
          refine v_gF C hi 3 (by decide) k_106 rfl dX0_buyBags_73 ?_
          refine v_iload_n C 0 dX0_buyBags_76 rfl ?_
          refine v_iadd C dX0_buyBags_77 ?_
          refine v_pF C hi 3 (by decide) k_106 dX0_buyBags_78 ?_
          refine v_aload_n C 2 dX0_buyBags_81 rfl ?_
          refine v_dup C dX0_buyBags_82 rfl ?_
          refine v_gF C hi 2 (by decide) k_104 rfl dX0_buyBags_83 ?_
          refine v_iconst (v := 1) C dX0_buyBags_86 rfl ?_
          refine v_iadd C dX0_buyBags_87 ?_
          refine v_pF C hi 2 (by decide) k_104 dX0_buyBags_88 ?_
          refine v_aload_n C 2 dX0_buyBags_91 rfl ?_
          refine v_dup C dX0_buyBags_92 rfl ?_
          refine v_gF C hi 5 (by decide) k_110 rfl dX0_buyBags_93 ?_
          refine v_gSN C 1 rfl (List.mem_of_getElem? (i := 23) rfl) dX0_buyBags_96 ?_
          refine v_iload_n C 1 dX0_buyBags_99 rfl ?_
          refine v_ldSk C 1 rfl 1 tn_1 in4_1 rfl dX0_buyBags_100 ?_
          refine v_iadd C dX0_buyBags_101 ?_
          refine v_pF C hi 5 (by decide) k_110 dX0_buyBags_102 ?_
          refine v_goto (tgt := 24) C dX0_buyBags_105 (by decide) ?_
          have e9 : bagL (n + 1) x_2 1 v9 g9 = bagL n x_2 1 (bag1 x_2 1 v9) (bag2 x_2 1 g9) := by rw [bagL, if_neg (by exact h30_2), if_neg (by exact h38_2)]
          rw [e9] at hk9
          refine v_eq (f' := (cw P (va_up N j (bag1 x_2 1 v9)) (va_up F i (bag2 x_2 1 g9)) T K A w)) rfl ?_
          exact ih (bag1 x_2 1 v9) (bag2 x_2 1 g9) (by rw [bag1_dec]; exact dec_lt h9 (by exact h30_2)) hk9
  refine L_2 ((q1.1 (16 + 1)).toNatClampNeg + 1) q1.1 q1.2 (Nat.lt_succ_self _) ?_
  rw [show bagL ((q1.1 (16 + 1)).toNatClampNeg + 1) x_2 1 q1.1 q1.2 = buyK 1 q1 by rw [ex_2]; rfl]
  obtain ⟨q2, hq2⟩ : ∃ q, q = buyK 1 q1 := ⟨_, rfl⟩
  rw [← hq2]
  refine v_iinc (b := 2) (lv' := [(2, .int 2), (3, .int x_2), (0, .ref (rF P i)), (1, .ref (rN P j))]) C 1 dX0_buyBags_108 rfl rfl (by decide) rfl ?_
  refine v_goto (tgt := 2) C dX0_buyBags_111 (by decide) ?_
  refine v_iload_n C 0 dX0_buyBags_2 rfl ?_
  refine v_iconst (v := 4) C dX0_buyBags_3 rfl ?_
  refine v_icmp_ge (tgt := 114) C dX0_buyBags_4 (by decide) (fun h9 => absurd h9 (by decide)) (fun _ => ?_)
  refine v_gSN C 1 rfl (List.mem_of_getElem? (i := 23) rfl) dX0_buyBags_7 ?_
  refine v_iload_n C 0 dX0_buyBags_10 rfl ?_
  refine v_ldSk C 1 rfl 2 tn_2 in4_2 rfl dX0_buyBags_11 ?_
  refine v_bipush (v := 100) C dX0_buyBags_12 rfl ?_
  refine v_aload_n C 2 dX0_buyBags_14 rfl ?_
  refine v_gF C hi 0 (by decide) k_99 rfl dX0_buyBags_15 ?_
  refine v_isub C dX0_buyBags_18 ?_
  refine v_imul C dX0_buyBags_19 ?_
  refine v_bipush (v := 100) C dX0_buyBags_20 rfl ?_
  refine v_idiv C dX0_buyBags_22 (by decide) ?_
  refine v_top (fun x_3 ex_3 => ?_)
  refine v_istore_n (lv' := [(3, .int x_3), (2, .int 2), (0, .ref (rF P i)), (1, .ref (rN P j))]) C dX0_buyBags_23 rfl (by decide) rfl ?_
  have L_3 : ∀ (n : Nat) (v9 g9 : Nat → Int32), (v9 (16 + 2)).toNatClampNeg < n → V p l e (rmO 1 0 0) s m args below meth cd P D (MQ below (QcV P D 97 False (cw P (va_up N j (buyB v g).1) (va_up F i (buyB v g).2) T K A w)) args s 0 0 (aO P)) 4 97 False (cw P (va_up N j (bagL n x_3 2 v9 g9).1) (va_up F i (bagL n x_3 2 v9 g9).2) T K A w) 0 0 108 [(3, .int x_3), (2, .int 2), (0, .ref (rF P i)), (1, .ref (rN P j))] [] → V p l e (rmO 1 0 0) s m args below meth cd P D (MQ below (QcV P D 97 False (cw P (va_up N j (buyB v g).1) (va_up F i (buyB v g).2) T K A w)) args s 0 0 (aO P)) 4 97 False (cw P (va_up N j v9) (va_up F i g9) T K A w) 0 0 24 [(3, .int x_3), (2, .int 2), (0, .ref (rF P i)), (1, .ref (rN P j))] [] := by
    intro n
    induction n with
    | zero => intro v9 g9 h9; exact absurd h9 (Nat.not_lt_zero _)
    | succ n ih =>
      intro v9 g9 h9 hk9
      refine v_aload_n C 3 dX0_buyBags_24 rfl ?_
      refine v_gNN C hj 13 (by decide) (List.mem_of_getElem? (i := 11) rfl) rfl dX0_buyBags_25 ?_
      refine v_iload_n C 1 dX0_buyBags_28 rfl ?_
      refine v_ldBk C 2 hj tn_2 in4_2 dX0_buyBags_29 ?_
      refine v_if_le (tgt := 108) C dX0_buyBags_30 (by decide) (fun h30_3 => ?_) (fun h30_3 => ?_)
      · have e9 : bagL (n + 1) x_3 2 v9 g9 = (v9, g9) := by rw [bagL, if_pos (by exact h30_3)]
        rw [e9] at hk9
        exact hk9
      · refine v_aload_n C 2 dX0_buyBags_33 rfl ?_
        refine v_gF C hi 1 (by decide) k_102 rfl dX0_buyBags_34 ?_
        refine v_iload_n C 0 dX0_buyBags_37 rfl ?_
        refine v_icmp_lt (tgt := 108) C dX0_buyBags_38 (by decide) (fun h38_3 => ?_) (fun h38_3 => ?_)
        · have e9 : bagL (n + 1) x_3 2 v9 g9 = (v9, g9) := by rw [bagL, if_neg (by exact h30_3), if_pos (by exact h38_3)]
          rw [e9] at hk9
          exact hk9
        · refine v_aload_n C 3 dX0_buyBags_41 rfl ?_
          refine v_gNN C hj 13 (by decide) (List.mem_of_getElem? (i := 11) rfl) rfl dX0_buyBags_42 ?_
          refine v_iload_n C 1 dX0_buyBags_45 rfl ?_
          refine v_dup2 C dX0_buyBags_46 rfl rfl ?_
          refine v_ldBk C 2 hj tn_2 in4_2 dX0_buyBags_47 ?_
          refine v_iconst (v := 1) C dX0_buyBags_48 rfl ?_
          refine v_isub C dX0_buyBags_49 ?_
          refine v_stBk C 2 hj tn_2 in4_2 dX0_buyBags_50 ?_
          refine v_aload_n C 3 dX0_buyBags_51 rfl ?_
          refine v_dup C dX0_buyBags_52 rfl ?_
          refine v_gNN C hj 7 (by decide) (List.mem_of_getElem? (i := 6) rfl) rfl dX0_buyBags_53 ?_
          refine v_iload_n C 0 dX0_buyBags_56 rfl ?_
          refine v_iadd C dX0_buyBags_57 ?_
          refine v_pNN C hj 7 (by decide) (List.mem_of_getElem? (i := 6) rfl) dX0_buyBags_58 ?_
          refine v_aload_n C 2 dX0_buyBags_61 rfl ?_
          refine v_dup C dX0_buyBags_62 rfl ?_
          refine v_gF C hi 1 (by decide) k_102 rfl dX0_buyBags_63 ?_
          refine v_iload_n C 0 dX0_buyBags_66 rfl ?_
          refine v_isub C dX0_buyBags_67 ?_
          refine v_pF C hi 1 (by decide) k_102 dX0_buyBags_68 ?_
          refine v_aload_n C 2 dX0_buyBags_71 rfl ?_
          refine v_dup C dX0_buyBags_72 rfl ?_
          refine v_gF C hi 3 (by decide) k_106 rfl dX0_buyBags_73 ?_
          refine v_iload_n C 0 dX0_buyBags_76 rfl ?_
          refine v_iadd C dX0_buyBags_77 ?_
          refine v_pF C hi 3 (by decide) k_106 dX0_buyBags_78 ?_
          refine v_aload_n C 2 dX0_buyBags_81 rfl ?_
          refine v_dup C dX0_buyBags_82 rfl ?_
          refine v_gF C hi 2 (by decide) k_104 rfl dX0_buyBags_83 ?_
          refine v_iconst (v := 1) C dX0_buyBags_86 rfl ?_
          refine v_iadd C dX0_buyBags_87 ?_
          refine v_pF C hi 2 (by decide) k_104 dX0_buyBags_88 ?_
          refine v_aload_n C 2 dX0_buyBags_91 rfl ?_
          refine v_dup C dX0_buyBags_92 rfl ?_
          refine v_gF C hi 5 (by decide) k_110 rfl dX0_buyBags_93 ?_
          refine v_gSN C 1 rfl (List.mem_of_getElem? (i := 23) rfl) dX0_buyBags_96 ?_
          refine v_iload_n C 1 dX0_buyBags_99 rfl ?_
          refine v_ldSk C 1 rfl 2 tn_2 in4_2 rfl dX0_buyBags_100 ?_
          refine v_iadd C dX0_buyBags_101 ?_
          refine v_pF C hi 5 (by decide) k_110 dX0_buyBags_102 ?_
          refine v_goto (tgt := 24) C dX0_buyBags_105 (by decide) ?_
          have e9 : bagL (n + 1) x_3 2 v9 g9 = bagL n x_3 2 (bag1 x_3 2 v9) (bag2 x_3 2 g9) := by rw [bagL, if_neg (by exact h30_3), if_neg (by exact h38_3)]
          rw [e9] at hk9
          refine v_eq (f' := (cw P (va_up N j (bag1 x_3 2 v9)) (va_up F i (bag2 x_3 2 g9)) T K A w)) rfl ?_
          exact ih (bag1 x_3 2 v9) (bag2 x_3 2 g9) (by rw [bag1_dec]; exact dec_lt h9 (by exact h30_3)) hk9
  refine L_3 ((q2.1 (16 + 2)).toNatClampNeg + 1) q2.1 q2.2 (Nat.lt_succ_self _) ?_
  rw [show bagL ((q2.1 (16 + 2)).toNatClampNeg + 1) x_3 2 q2.1 q2.2 = buyK 2 q2 by rw [ex_3]; rfl]
  obtain ⟨q3, hq3⟩ : ∃ q, q = buyK 2 q2 := ⟨_, rfl⟩
  rw [← hq3]
  refine v_iinc (b := 3) (lv' := [(2, .int 3), (3, .int x_3), (0, .ref (rF P i)), (1, .ref (rN P j))]) C 1 dX0_buyBags_108 rfl rfl (by decide) rfl ?_
  refine v_goto (tgt := 2) C dX0_buyBags_111 (by decide) ?_
  refine v_iload_n C 0 dX0_buyBags_2 rfl ?_
  refine v_iconst (v := 4) C dX0_buyBags_3 rfl ?_
  refine v_icmp_ge (tgt := 114) C dX0_buyBags_4 (by decide) (fun h9 => absurd h9 (by decide)) (fun _ => ?_)
  refine v_gSN C 1 rfl (List.mem_of_getElem? (i := 23) rfl) dX0_buyBags_7 ?_
  refine v_iload_n C 0 dX0_buyBags_10 rfl ?_
  refine v_ldSk C 1 rfl 3 tn_3 in4_3 rfl dX0_buyBags_11 ?_
  refine v_bipush (v := 100) C dX0_buyBags_12 rfl ?_
  refine v_aload_n C 2 dX0_buyBags_14 rfl ?_
  refine v_gF C hi 0 (by decide) k_99 rfl dX0_buyBags_15 ?_
  refine v_isub C dX0_buyBags_18 ?_
  refine v_imul C dX0_buyBags_19 ?_
  refine v_bipush (v := 100) C dX0_buyBags_20 rfl ?_
  refine v_idiv C dX0_buyBags_22 (by decide) ?_
  refine v_top (fun x_4 ex_4 => ?_)
  refine v_istore_n (lv' := [(3, .int x_4), (2, .int 3), (0, .ref (rF P i)), (1, .ref (rN P j))]) C dX0_buyBags_23 rfl (by decide) rfl ?_
  have L_4 : ∀ (n : Nat) (v9 g9 : Nat → Int32), (v9 (16 + 3)).toNatClampNeg < n → V p l e (rmO 1 0 0) s m args below meth cd P D (MQ below (QcV P D 97 False (cw P (va_up N j (buyB v g).1) (va_up F i (buyB v g).2) T K A w)) args s 0 0 (aO P)) 4 97 False (cw P (va_up N j (bagL n x_4 3 v9 g9).1) (va_up F i (bagL n x_4 3 v9 g9).2) T K A w) 0 0 108 [(3, .int x_4), (2, .int 3), (0, .ref (rF P i)), (1, .ref (rN P j))] [] → V p l e (rmO 1 0 0) s m args below meth cd P D (MQ below (QcV P D 97 False (cw P (va_up N j (buyB v g).1) (va_up F i (buyB v g).2) T K A w)) args s 0 0 (aO P)) 4 97 False (cw P (va_up N j v9) (va_up F i g9) T K A w) 0 0 24 [(3, .int x_4), (2, .int 3), (0, .ref (rF P i)), (1, .ref (rN P j))] [] := by
    intro n
    induction n with
    | zero => intro v9 g9 h9; exact absurd h9 (Nat.not_lt_zero _)
    | succ n ih =>
      intro v9 g9 h9 hk9
      refine v_aload_n C 3 dX0_buyBags_24 rfl ?_
      refine v_gNN C hj 13 (by decide) (List.mem_of_getElem? (i := 11) rfl) rfl dX0_buyBags_25 ?_
      refine v_iload_n C 1 dX0_buyBags_28 rfl ?_
      refine v_ldBk C 3 hj tn_3 in4_3 dX0_buyBags_29 ?_
      refine v_if_le (tgt := 108) C dX0_buyBags_30 (by decide) (fun h30_4 => ?_) (fun h30_4 => ?_)
      · have e9 : bagL (n + 1) x_4 3 v9 g9 = (v9, g9) := by rw [bagL, if_pos (by exact h30_4)]
        rw [e9] at hk9
        exact hk9
      · refine v_aload_n C 2 dX0_buyBags_33 rfl ?_
        refine v_gF C hi 1 (by decide) k_102 rfl dX0_buyBags_34 ?_
        refine v_iload_n C 0 dX0_buyBags_37 rfl ?_
        refine v_icmp_lt (tgt := 108) C dX0_buyBags_38 (by decide) (fun h38_4 => ?_) (fun h38_4 => ?_)
        · have e9 : bagL (n + 1) x_4 3 v9 g9 = (v9, g9) := by rw [bagL, if_neg (by exact h30_4), if_pos (by exact h38_4)]
          rw [e9] at hk9
          exact hk9
        · refine v_aload_n C 3 dX0_buyBags_41 rfl ?_
          refine v_gNN C hj 13 (by decide) (List.mem_of_getElem? (i := 11) rfl) rfl dX0_buyBags_42 ?_
          refine v_iload_n C 1 dX0_buyBags_45 rfl ?_
          refine v_dup2 C dX0_buyBags_46 rfl rfl ?_
          refine v_ldBk C 3 hj tn_3 in4_3 dX0_buyBags_47 ?_
          refine v_iconst (v := 1) C dX0_buyBags_48 rfl ?_
          refine v_isub C dX0_buyBags_49 ?_
          refine v_stBk C 3 hj tn_3 in4_3 dX0_buyBags_50 ?_
          refine v_aload_n C 3 dX0_buyBags_51 rfl ?_
          refine v_dup C dX0_buyBags_52 rfl ?_
          refine v_gNN C hj 7 (by decide) (List.mem_of_getElem? (i := 6) rfl) rfl dX0_buyBags_53 ?_
          refine v_iload_n C 0 dX0_buyBags_56 rfl ?_
          refine v_iadd C dX0_buyBags_57 ?_
          refine v_pNN C hj 7 (by decide) (List.mem_of_getElem? (i := 6) rfl) dX0_buyBags_58 ?_
          refine v_aload_n C 2 dX0_buyBags_61 rfl ?_
          refine v_dup C dX0_buyBags_62 rfl ?_
          refine v_gF C hi 1 (by decide) k_102 rfl dX0_buyBags_63 ?_
          refine v_iload_n C 0 dX0_buyBags_66 rfl ?_
          refine v_isub C dX0_buyBags_67 ?_
          refine v_pF C hi 1 (by decide) k_102 dX0_buyBags_68 ?_
          refine v_aload_n C 2 dX0_buyBags_71 rfl ?_
          refine v_dup C dX0_buyBags_72 rfl ?_
          refine v_gF C hi 3 (by decide) k_106 rfl dX0_buyBags_73 ?_
          refine v_iload_n C 0 dX0_buyBags_76 rfl ?_
          refine v_iadd C dX0_buyBags_77 ?_
          refine v_pF C hi 3 (by decide) k_106 dX0_buyBags_78 ?_
          refine v_aload_n C 2 dX0_buyBags_81 rfl ?_
          refine v_dup C dX0_buyBags_82 rfl ?_
          refine v_gF C hi 2 (by decide) k_104 rfl dX0_buyBags_83 ?_
          refine v_iconst (v := 1) C dX0_buyBags_86 rfl ?_
          refine v_iadd C dX0_buyBags_87 ?_
          refine v_pF C hi 2 (by decide) k_104 dX0_buyBags_88 ?_
          refine v_aload_n C 2 dX0_buyBags_91 rfl ?_
          refine v_dup C dX0_buyBags_92 rfl ?_
          refine v_gF C hi 5 (by decide) k_110 rfl dX0_buyBags_93 ?_
          refine v_gSN C 1 rfl (List.mem_of_getElem? (i := 23) rfl) dX0_buyBags_96 ?_
          refine v_iload_n C 1 dX0_buyBags_99 rfl ?_
          refine v_ldSk C 1 rfl 3 tn_3 in4_3 rfl dX0_buyBags_100 ?_
          refine v_iadd C dX0_buyBags_101 ?_
          refine v_pF C hi 5 (by decide) k_110 dX0_buyBags_102 ?_
          refine v_goto (tgt := 24) C dX0_buyBags_105 (by decide) ?_
          have e9 : bagL (n + 1) x_4 3 v9 g9 = bagL n x_4 3 (bag1 x_4 3 v9) (bag2 x_4 3 g9) := by rw [bagL, if_neg (by exact h30_4), if_neg (by exact h38_4)]
          rw [e9] at hk9
          refine v_eq (f' := (cw P (va_up N j (bag1 x_4 3 v9)) (va_up F i (bag2 x_4 3 g9)) T K A w)) rfl ?_
          exact ih (bag1 x_4 3 v9) (bag2 x_4 3 g9) (by rw [bag1_dec]; exact dec_lt h9 (by exact h30_4)) hk9
  refine L_4 ((q3.1 (16 + 3)).toNatClampNeg + 1) q3.1 q3.2 (Nat.lt_succ_self _) ?_
  rw [show bagL ((q3.1 (16 + 3)).toNatClampNeg + 1) x_4 3 q3.1 q3.2 = buyK 3 q3 by rw [ex_4]; rfl]
  obtain ⟨q4, hq4⟩ : ∃ q, q = buyK 3 q3 := ⟨_, rfl⟩
  rw [← hq4]
  refine v_iinc (b := 4) (lv' := [(2, .int 4), (3, .int x_4), (0, .ref (rF P i)), (1, .ref (rN P j))]) C 1 dX0_buyBags_108 rfl rfl (by decide) rfl ?_
  refine v_goto (tgt := 2) C dX0_buyBags_111 (by decide) ?_
  refine v_iload_n C 0 dX0_buyBags_2 rfl ?_
  refine v_iconst (v := 4) C dX0_buyBags_3 rfl ?_
  refine v_icmp_ge (tgt := 114) C dX0_buyBags_4 (by decide) (fun _ => ?_) (fun h9 => absurd (by decide) h9)
  exact v_vret C dX0_buyBags_114 (by rw [hq4, hq3, hq2, hq1]; rfl)
end
section
/-! THE CLASS TRADE: rows, pure functions, the nailers' and foggers' contracts over a world that is not turned to them -/
section VHeap3
variable {p : Program} {l : Launch} {e : Env} {R : Room} {s : State} {m : MethodId} {args : Array Value} {below : List Frame} {meth : Method} {c : Code} {P : L5} {D : va_G} {Q : State → Prop} {nL k z pc : Nat} {lv : List (Nat × Value)} {st : List Value} {cc : ByteArray} {ret : Option FieldType} {own : String}
variable {N F T : Nat → Nat → Int32} {K : Nat → Int32} {A : Nat → Nat → Int32} {w : Int64}
theorem v_aaNk (C : Cx p l s m args meth c P D cc nL ret own) {t : Nat} (i9 : Nat) (ht : t < 2) {i : Int32} (hi : i.toNatClampNeg = i9) (hin : vp_in i 12) (hdg : decode cc pc = .ok (.aaload, 1)) (kk : V p l e R s m args below meth c P D Q nL 97 False (cw P N F T K A w) k z (pc + 1) lv (.ref (rN P (12 * t + i9)) :: st)) : V p l e R s m args below meth c P D Q nL 97 False (cw P N F T K A w) k z pc lv (.int i :: .ref (rNA P t) :: st) := by subst hi; exact v_aaN C ht hin hdg kk
theorem v_aaFk (C : Cx p l s m args meth c P D cc nL ret own) {t : Nat} (i9 : Nat) (ht : t < 2) {i : Int32} (hi : i.toNatClampNeg = i9) (hin : vp_in i 4) (hdg : decode cc pc = .ok (.aaload, 1)) (kk : V p l e R s m args below meth c P D Q nL 97 False (cw P N F T K A w) k z (pc + 1) lv (.ref (rF P (4 * t + i9)) :: st)) : V p l e R s m args below meth c P D Q nL 97 False (cw P N F T K A w) k z pc lv (.int i :: .ref (rFA P t) :: st) := by subst hi; exact v_aaF C ht hin hdg kk
end VHeap3
section VU
variable {l : Launch} {P : L5} {D : va_G} {N F T : Nat → Nat → Int32} {K : Nat → Int32} {A : Nat → Nat → Int32} {w : Int64}
theorem u_X1_workHour {j : Nat} (hj : j < 25) (hk : vp_in (N j 1) 4) : CtI l yX1_workHour cX1_workHour 3 .int 3 0 0 P D 97 97 False (cw P N F T K A w) (cw P (va_up N j (workH (N j)).1) F T K A w) [.ref (rN P j)] (workH (N j)).2 := by
  have h := c_X1_workHour (l := l) (P := P) (D := D) (N := N) (F := F) (T := T) (K := K) (A := A) (w := w) hj hk
  rwa [va_up_eta] at h
theorem u_X1_workHours {j : Nat} (hj : j < 25) (hk : vp_in (N j 1) 4) {h : Int32} : CtI l yX1_workHours cX1_workHours 4 .int 4 0 0 P D 97 97 False (cw P N F T K A w) (cw P (va_up N j (wHl (fuel h 0) h 0 (N j) 0).1) F T K A w) [.ref (rN P j), .int h] (wHl (fuel h 0) h 0 (N j) 0).2 := by
  have h := c_X1_workHours (l := l) (P := P) (D := D) (N := N) (F := F) (T := T) (K := K) (A := A) (w := w) hj hk (h := h)
  rwa [va_up_eta] at h
theorem u_X1_copyFrom {j i : Nat} (hj : j < 25) (hi : i < 25) (hne : i ≠ j) : CtV l yX1_copyFrom cX1_copyFrom 3 1 0 0 P D 97 97 False (cw P N F T K A w) (cw P (va_up N j (N i)) F T K A w) [.ref (rN P j), .ref (rN P i)] := by
  have h := c_X1_copyFrom (l := l) (P := P) (D := D) (N := N) (F := F) (T := T) (K := K) (A := A) (w := w) (v := N j) hj hi hne
  rwa [va_up_eta] at h
theorem u_X1_begin {j : Nat} (hj : j < 25) {a b d : Int32} : CtV l yX1_begin cX1_begin 4 1 0 0 P D 97 97 False (cw P N F T K A w) (cw P (va_up N j (upd (upd (upd (N j) 0 a) 1 b) 2 d)) F T K A w) [.ref (rN P j), .int a, .int b, .int d] := by
  have h := c_X1_begin (l := l) (P := P) (D := D) (N := N) (F := F) (T := T) (K := K) (A := A) (w := w) (v := N j) hj (a := a) (b := b) (d := d)
  rwa [va_up_eta] at h
theorem u_X0_copyFrom {i j : Nat} (hi : i < 8) (hj : j < 8) (hne : j ≠ i) : CtV l yX0_copyFrom cX0_copyFrom 2 1 0 0 P D 97 97 False (cw P N F T K A w) (cw P N (va_up F i (F j)) T K A w) [.ref (rF P i), .ref (rF P j)] := by
  have h := c_X0_copyFrom (l := l) (P := P) (D := D) (N := N) (F := F) (T := T) (K := K) (A := A) (w := w) (g := F i) hi hj hne
  rwa [va_up_eta] at h
theorem u_X0_deliver {i : Nat} (hi : i < 8) : CtV l yX0_deliver cX0_deliver 1 1 0 0 P D 97 97 False (cw P N F T K A w) (cw P N (va_up F i (dlv (F i))) T K A w) [.ref (rF P i)] := by
  have h := c_X0_deliver (l := l) (P := P) (D := D) (N := N) (F := F) (T := T) (K := K) (A := A) (w := w) (g := F i) hi
  rwa [va_up_eta] at h
theorem u_X0_buyBags {i j : Nat} (hi : i < 8) (hj : j < 25) : CtV l yX0_buyBags cX0_buyBags 4 1 0 0 P D 97 97 False (cw P N F T K A w) (cw P (va_up N j (buyB (N j) (F i)).1) (va_up F i (buyB (N j) (F i)).2) T K A w) [.ref (rF P i), .ref (rN P j)] := by
  have h := c_X0_buyBags (l := l) (P := P) (D := D) (N := N) (F := F) (T := T) (K := K) (A := A) (w := w) (g := F i) (v := N j) hi hj
  rwa [va_up_eta, va_up_eta] at h
end VU
def goN : Nat → Nat → Nat → Nat → (Nat → Nat → Int32) → Int32 → (Nat → Nat → Int32) × Int32
  | 0, _, _, _, N, sm => (N, sm)
  | n + 1, c, b, i, N, sm => if c ≤ i then (N, sm) else goN n c b (i + 1) (va_up N (b + i) (workH (N (b + i))).1) (sm + (workH (N (b + i))).2)
def rk1 (N F : Nat → Nat → Int32) (j i : Nat) : (Nat → Nat → Int32) × (Nat → Nat → Int32) := (va_up N j (colV (buyB (N j) (F i)).1), va_up F i (colG (buyB (N j) (F i)).1 (buyB (N j) (F i)).2))
def rkN : Nat → Nat → Nat → Nat → Nat → (Nat → Nat → Int32) → (Nat → Nat → Int32) → (Nat → Nat → Int32) × (Nat → Nat → Int32)
  | 0, _, _, _, _, N, F => (N, F)
  | n + 1, c, b, fb, i, N, F => if c ≤ i then (N, F) else rkN n c b fb (i + 1) (rk1 N F (b + i) (fb + (N (b + i) 2).toNatClampNeg)).1 (rk1 N F (b + i) (fb + (N (b + i) 2).toNatClampNeg)).2
def dl1 (F : Nat → Nat → Int32) (i : Nat) : Nat → Nat → Int32 := va_up F i (dlv (F i))
def dl4 (F : Nat → Nat → Int32) (fb : Nat) : Nat → Nat → Int32 := dl1 (dl1 (dl1 (dl1 F (fb + 0)) (fb + 1)) (fb + 2)) (fb + 3)
def weekR (c b fb : Nat) (N F : Nat → Nat → Int32) : (Nat → Nat → Int32) × (Nat → Nat → Int32) := ((rkN (c + 1) c b fb 0 N F).1, dl4 (rkN (c + 1) c b fb 0 N F).2 fb)
/-- an hour: nailers, foggers, and the good nails -/
def hourN (c b fb : Nat) (now : Int32) (N F : Nat → Nat → Int32) : (Nat → Nat → Int32) × (Nat → Nat → Int32) := if now - now / 48 * 48 = 47 then weekR c b fb (goN (c + 1) c b 0 N 0).1 F else ((goN (c + 1) c b 0 N 0).1, F)
def hourG (c b : Nat) (N : Nat → Nat → Int32) : Int32 := (goN (c + 1) c b 0 N 0).2
def hourT (T : Nat → Nat → Int32) (t : Nat) : Nat → Nat → Int32 := va_up T t (upd (T t) 0 (T t 0 + 1))
def goB : Nat → Int32 → Int32 → Nat → Nat → (Nat → Nat → Int32) → (Nat → Nat → Int32) → (Nat → Nat → Int32) → Int32 → (Nat → Nat → Int32) × (Nat → Nat → Int32) × (Nat → Nat → Int32) × Int32
  | 0, _, _, _, _, N, F, T, sm => (N, F, T, sm)
  | n + 1, h, i, c, t, N, F, T, sm => if h ≤ i then (N, F, T, sm) else goB n h (i + 1) c t (hourN c (12 * t) (4 * t) (T t 0) N F).1 (hourN c (12 * t) (4 * t) (T t 0) N F).2 (hourT T t) (sm + hourG c (12 * t) N)
def cpN : Nat → Nat → Nat → Nat → Nat → (Nat → Nat → Int32) → Nat → Nat → Int32
  | 0, _, _, _, _, N => N
  | n + 1, c, b, d, i, N => if c ≤ i then N else cpN n c b d (i + 1) (va_up N (b + i) (N (d + i)))
def cp1 (F : Nat → Nat → Int32) (i j : Nat) : Nat → Nat → Int32 := va_up F i (F j)
def cp4 (F : Nat → Nat → Int32) (b d : Nat) : Nat → Nat → Int32 := cp1 (cp1 (cp1 (cp1 F (b + 0) (d + 0)) (b + 1) (d + 1)) (b + 2) (d + 2)) (b + 3) (d + 3)
def shS : Nat → Nat → Nat → Nat → Nat → (Nat → Nat → Int32) → Int32 → Int32
  | 0, _, _, _, _, _, sm => sm
  | n + 1, k, c, b, i, N, sm => if c ≤ i then sm else shS n k c b (i + 1) N (sm + share (N (b + i)) k)
def wkF : Nat → Int32 → Nat → Nat → Nat → (Nat → Nat → Int32) → Int32 → Int32
  | 0, _, _, _, _, _, sm => sm
  | n + 1, q, c, b, i, N, sm => if c ≤ i then sm else wkF n q c b (i + 1) N (if N (b + i) 2 = q then sm + 1 else sm)
def boughtF (F : Nat → Nat → Int32) (fb : Nat) : Int32 := 0 + F (fb + 0) 2 + F (fb + 1) 2 + F (fb + 2) 2 + F (fb + 3) 2
def totN (N F T : Nat → Nat → Int32) (t c k : Nat) : Int32 := if k = 0 then T t 0 else if k = 1 then T t 1 else if k = 6 then boughtF F (4 * t) else shS (c + 1) k c (12 * t) 0 N 0
def fogN (N F : Nat → Nat → Int32) (t c : Nat) (q : Int32) (k : Nat) : Int32 :=
  if k = 0 then F (4 * t + q.toNatClampNeg) 0 else if k = 1 then F (4 * t + q.toNatClampNeg) 1 else if k = 2 then wkF (c + 1) q c (12 * t) 0 N 0 else if k = 3 then F (4 * t + q.toNatClampNeg) 2 else if k = 4 then F (4 * t + q.toNatClampNeg) 3 else F (4 * t + q.toNatClampNeg) 4 - F (4 * t + q.toNatClampNeg) 3
/-- kinds and foggers of the nailers -/
def KF (N : Nat → Nat → Int32) (b c : Nat) : Prop := ∀ k, k < c → vp_in (N (b + k) 1) 4 ∧ vp_in (N (b + k) 2) 4
theorem leC {a : Int32} {c i : Nat} (hc : a = nI c) (h12 : c ≤ 12) (hi : i ≤ c) : a ≤ nI i ↔ c ≤ i := by
  rw [hc]
  exact nI_leI (by omega) (by omega)
theorem tend_2 (v : Nat → Int32) : tend v 2 = v 2 := by unfold tend; split <;> rfl
theorem hlp_2 : ∀ (n : Nat) (most : Int32) (v : Nat → Int32) (hd : Int32), (hlp n most v hd).1 2 = v 2
  | 0, _, _, _ => rfl
  | n + 1, most, v, hd => by
    unfold hlp
    split
    · rfl
    · split
      · rfl
      · rw [hlp_2 n]; rfl
theorem head_2 (v : Nat → Int32) (a : Int32) : (head v a).1 2 = v 2 := by unfold head; rw [hlp_2]; rfl
theorem store_2 (v : Nat → Int32) (a : Int32) : store v a 2 = v 2 := by
  unfold store
  rw [upd_ge (by omega)]
  unfold sto3
  rw [upd_ge (by omega)]
  unfold sto2
  rw [upd_ge (by omega)]
  rfl
theorem workH_2 (v : Nat → Int32) : (workH v).1 2 = v 2 := by
  unfold workH
  split
  · simp only [workB, store_2]
    rw [upd_ge (by omega), head_2, tend_2]
  · exact tend_2 v
theorem bagL_k {k t : Nat} (hk : k < 3) : ∀ (n : Nat) (pr : Int32) (v g : Nat → Int32), (bagL n pr t v g).1 k = v k
  | 0, _, _, _ => rfl
  | n + 1, pr, v, g => by
    unfold bagL
    split
    · rfl
    · split
      · rfl
      · rw [bagL_k hk n]
        unfold bag1
        rw [upd_ge (by omega), upd_ge (by omega)]
theorem buyB_k {k : Nat} (hk : k < 3) (v g : Nat → Int32) : (buyB v g).1 k = v k := by
  unfold buyB buyK
  rw [bagL_k hk, bagL_k hk, bagL_k hk, bagL_k hk]
theorem colV_k {k : Nat} (hk : k < 3) (v : Nat → Int32) : colV v k = v k := by
  unfold colV
  rw [upd_ge (by omega), upd_ge (by omega)]
theorem KF_up {N : Nat → Nat → Int32} {b c j : Nat} {v : Nat → Int32} (h : KF N b c) (h1 : v 1 = N j 1) (h2 : v 2 = N j 2) : KF (va_up N j v) b c := by
  intro k hk
  by_cases hj : b + k = j
  · rw [hj, va_up_self, h1, h2, ← hj]
    exact h k hk
  · rw [va_up_ne _ _ hj]
    exact h k hk
theorem KF_goN {b c : Nat} : ∀ (n i : Nat) (N : Nat → Nat → Int32) (sm : Int32), KF N b c → KF (goN n c b i N sm).1 b c
  | 0, _, _, _, h => h
  | n + 1, i, N, sm, h => by
    unfold goN
    split
    · exact h
    · exact KF_goN n _ _ _ (KF_up h (workH_1 _) (workH_2 _))
theorem KF_rkN {b c fb : Nat} : ∀ (n i : Nat) (N F : Nat → Nat → Int32), KF N b c → KF (rkN n c b fb i N F).1 b c
  | 0, _, _, _, h => h
  | n + 1, i, N, F, h => by
    unfold rkN
    split
    · exact h
    · refine KF_rkN n _ _ _ (KF_up h ?_ ?_)
      · rw [colV_k (by omega), buyB_k (by omega)]
      · rw [colV_k (by omega), buyB_k (by omega)]
theorem KF_hour {b c fb : Nat} {now : Int32} {N F : Nat → Nat → Int32} (h : KF N b c) : KF (hourN c b fb now N F).1 b c := by
  unfold hourN
  split
  · exact KF_rkN _ _ _ _ (KF_goN _ _ _ _ h)
  · exact KF_goN _ _ _ _ h
end
section
/-! THE CLASS TRADE: contracts and walks -/
theorem pk_lt4 {a : Int32} (h : vp_in a 4) : a.toNatClampNeg < 4 := Nat.not_le.mp fun q => h (Or.inr q)
set_option maxHeartbeats 4000000 in
set_option maxRecDepth 100000 in
theorem c_X2_reckonWeek {l : Launch} {P : L5} {D : va_G} {N F T : Nat → Nat → Int32} {K : Nat → Int32} {A : Nat → Nat → Int32} {w : Int64} {t : Nat} (ht : t < 2) {c : Nat} (hc : T t 1 = nI c) (h12 : c ≤ 12) (hKF : KF N (12 * t) c) : CtV l yX2_reckonWeek cX2_reckonWeek 3 3 0 0 P D 97 97 False (cw P N F T K A w) (cw P (weekR c (12 * t) (4 * t) N F).1 (weekR c (12 * t) (4 * t) N F).2 T K A w) [.ref (rT P t)] := by
  refine mk_Met pl_X2 [(0, .ref (rT P t))] rfl (Nat.le_of_ble_eq_true rfl) ?_
  intro p e s m args below meth cd C
  refine v_iconst (v := 0) C dX2_reckonWeek_0 rfl ?_
  refine v_istore_n (lv' := [(1, .int 0), (0, .ref (rT P t))]) C dX2_reckonWeek_1 rfl (by decide) rfl ?_
  have L_1 : ∀ (n : Nat) (i : Nat) (N9 F9 : Nat → Nat → Int32), i ≤ c → c < i + n → KF N9 (12 * t) c → V p l e (rmO 3 0 0) s m args below meth cd P D (MQ below (QcV P D 97 False (cw P (weekR c (12 * t) (4 * t) N F).1 (weekR c (12 * t) (4 * t) N F).2 T K A w)) args s 0 0 (aO P)) 3 97 False (cw P (rkN n c (12 * t) (4 * t) i N9 F9).1 (rkN n c (12 * t) (4 * t) i N9 F9).2 T K A w) 0 0 51 [(0, .ref (rT P t))] [] → V p l e (rmO 3 0 0) s m args below meth cd P D (MQ below (QcV P D 97 False (cw P (weekR c (12 * t) (4 * t) N F).1 (weekR c (12 * t) (4 * t) N F).2 T K A w)) args s 0 0 (aO P)) 3 97 False (cw P N9 F9 T K A w) 0 0 2 [(1, .int (nI i)), (0, .ref (rT P t))] [] := by
    intro n
    induction n with
    | zero => intro i N9 F9 h1 h2; omega
    | succ n ih =>
      intro i N9 F9 h1 h2 hK9 hk9
      refine v_iload_n C 0 dX2_reckonWeek_2 rfl ?_
      refine v_aload_n C 1 dX2_reckonWeek_3 rfl ?_
      refine v_gTu C ht 1 (by decide) k_125 rfl dX2_reckonWeek_4 ?_
      refine v_icmp_ge (tgt := 51) C dX2_reckonWeek_7 (by decide) (fun h7_1 => ?_) (fun h7_1 => ?_)
      · refine v_lv [1] rfl ?_
        have hic : c ≤ i := (leC hc h12 h1).mp h7_1
        have e9 : rkN (n + 1) c (12 * t) (4 * t) i N9 F9 = (N9, F9) := by rw [rkN, if_pos hic]
        rw [e9] at hk9
        exact hk9
      · have hic : i < c := Nat.not_le.mp (fun q => h7_1 ((leC hc h12 h1).mpr q))
        have h4 := (pk_lt4 (hK9 i hic).2)
        refine v_aload_n C 1 dX2_reckonWeek_10 rfl ?_
        refine v_gTu C ht 3 (by decide) k_129 rfl dX2_reckonWeek_11 ?_
        refine v_aload_n C 1 dX2_reckonWeek_14 rfl ?_
        refine v_gTu C ht 2 (by decide) k_127 rfl dX2_reckonWeek_15 ?_
        refine v_iload_n C 0 dX2_reckonWeek_18 rfl ?_
        refine v_aaNk C i ht (nI_clamp (by omega)) (vp_in_nI (by omega) (by omega)) dX2_reckonWeek_19 ?_
        refine v_gNuN C (by omega) 2 (by decide) (List.mem_of_getElem? (i := 1) rfl) rfl dX2_reckonWeek_20 ?_
        refine v_aaFk C ((N9 (12 * t + i) 2).toNatClampNeg) ht rfl (hK9 i hic).2 dX2_reckonWeek_23 ?_
        refine v_astore_n (lv' := [(2, .ref (rF P (4 * t + ((N9 (12 * t + i) 2).toNatClampNeg)))), (1, .int (nI i)), (0, .ref (rT P t))]) C dX2_reckonWeek_24 rfl (by decide) rfl ?_
        refine v_aload_n C 0 dX2_reckonWeek_25 rfl ?_
        refine v_aload_n C 2 dX2_reckonWeek_26 rfl ?_
        refine v_gTu C ht 2 (by decide) k_127 rfl dX2_reckonWeek_27 ?_
        refine v_iload_n C 1 dX2_reckonWeek_30 rfl ?_
        refine v_aaNk C i ht (nI_clamp (by omega)) (vp_in_nI (by omega) (by omega)) dX2_reckonWeek_31 ?_
        refine go_V (run_VN C (u_X0_buyBags (by omega) (by omega)) k_443 k_4 (List.mem_of_getElem? (i := 12) rfl) k_442 ks_19 dd_X0_buyBags ⟨Nat.le_of_ble_eq_true rfl, Nat.le_of_ble_eq_true rfl⟩ (rcF (by omega)) rfl (Nat.le_of_ble_eq_true rfl) dX2_reckonWeek_32 ⟨Nat.le_of_ble_eq_true rfl, Nat.le_of_ble_eq_true rfl⟩) ?_
        refine v_aload_n C 0 dX2_reckonWeek_35 rfl ?_
        refine v_aload_n C 2 dX2_reckonWeek_36 rfl ?_
        refine v_gTu C ht 2 (by decide) k_127 rfl dX2_reckonWeek_37 ?_
        refine v_iload_n C 1 dX2_reckonWeek_40 rfl ?_
        refine v_aaNk C i ht (nI_clamp (by omega)) (vp_in_nI (by omega) (by omega)) dX2_reckonWeek_41 ?_
        refine go_V (run_VN C (c_X0_collectDebt (by omega) (by omega)) k_449 k_4 (List.mem_of_getElem? (i := 13) rfl) k_448 ks_20 dd_X0_collectDebt ⟨Nat.le_of_ble_eq_true rfl, Nat.le_of_ble_eq_true rfl⟩ (rcF (by omega)) rfl (Nat.le_of_ble_eq_true rfl) dX2_reckonWeek_42 ⟨Nat.le_of_ble_eq_true rfl, Nat.le_of_ble_eq_true rfl⟩) ?_
        refine v_iinc (b := (nI (i + 1))) (lv' := [(1, .int (nI (i + 1))), (2, .ref (rF P (4 * t + ((N9 (12 * t + i) 2).toNatClampNeg)))), (0, .ref (rT P t))]) C 1 dX2_reckonWeek_45 rfl (nI_1 _) (by decide) rfl ?_
        refine v_goto (tgt := 2) C dX2_reckonWeek_48 (by decide) ?_
        refine v_lv [0, 2] rfl ?_
        have e9 : rkN (n + 1) c (12 * t) (4 * t) i N9 F9 = rkN n c (12 * t) (4 * t) (i + 1) (rk1 N9 F9 (12 * t + i) (4 * t + (N9 (12 * t + i) 2).toNatClampNeg)).1 (rk1 N9 F9 (12 * t + i) (4 * t + (N9 (12 * t + i) 2).toNatClampNeg)).2 := by rw [rkN, if_neg (by omega)]
        rw [e9] at hk9
        exact ih _ _ _ (by omega) (by omega) (KF_up hK9 (by rw [colV_k (by omega), buyB_k (by omega)]) (by rw [colV_k (by omega), buyB_k (by omega)])) hk9
  refine L_1 (c + 1) 0 N F (by omega) (by omega) hKF ?_
  refine v_iconst (v := 0) C dX2_reckonWeek_51 rfl ?_
  refine v_istore_n (lv' := [(1, .int 0), (0, .ref (rT P t))]) C dX2_reckonWeek_52 rfl (by decide) rfl ?_
  refine v_iload_n C 0 dX2_reckonWeek_53 rfl ?_
  refine v_iconst (v := 4) C dX2_reckonWeek_54 rfl ?_
  refine v_icmp_ge (tgt := 73) C dX2_reckonWeek_55 (by decide) (fun h9 => absurd h9 (by decide)) (fun _ => ?_)
  refine v_aload_n C 1 dX2_reckonWeek_58 rfl ?_
  refine v_gTu C ht 3 (by decide) k_129 rfl dX2_reckonWeek_59 ?_
  refine v_iload_n C 0 dX2_reckonWeek_62 rfl ?_
  refine v_aaFk C 0 ht tn_0 in4_0 dX2_reckonWeek_63 ?_
  refine go_V (run_VN C (u_X0_deliver (by omega)) k_454 k_4 (List.mem_of_getElem? (i := 14) rfl) k_453 ks_21 dd_X0_deliver ⟨Nat.le_of_ble_eq_true rfl, Nat.le_of_ble_eq_true rfl⟩ (rcF (by omega)) rfl (Nat.le_of_ble_eq_true rfl) dX2_reckonWeek_64 ⟨Nat.le_of_ble_eq_true rfl, Nat.le_of_ble_eq_true rfl⟩) ?_
  refine v_iinc (b := 1) (lv' := [(1, .int 1), (0, .ref (rT P t))]) C 0 dX2_reckonWeek_67 rfl rfl (by decide) rfl ?_
  refine v_goto (tgt := 53) C dX2_reckonWeek_70 (by decide) ?_
  refine v_iload_n C 0 dX2_reckonWeek_53 rfl ?_
  refine v_iconst (v := 4) C dX2_reckonWeek_54 rfl ?_
  refine v_icmp_ge (tgt := 73) C dX2_reckonWeek_55 (by decide) (fun h9 => absurd h9 (by decide)) (fun _ => ?_)
  refine v_aload_n C 1 dX2_reckonWeek_58 rfl ?_
  refine v_gTu C ht 3 (by decide) k_129 rfl dX2_reckonWeek_59 ?_
  refine v_iload_n C 0 dX2_reckonWeek_62 rfl ?_
  refine v_aaFk C 1 ht tn_1 in4_1 dX2_reckonWeek_63 ?_
  refine go_V (run_VN C (u_X0_deliver (by omega)) k_454 k_4 (List.mem_of_getElem? (i := 14) rfl) k_453 ks_21 dd_X0_deliver ⟨Nat.le_of_ble_eq_true rfl, Nat.le_of_ble_eq_true rfl⟩ (rcF (by omega)) rfl (Nat.le_of_ble_eq_true rfl) dX2_reckonWeek_64 ⟨Nat.le_of_ble_eq_true rfl, Nat.le_of_ble_eq_true rfl⟩) ?_
  refine v_iinc (b := 2) (lv' := [(1, .int 2), (0, .ref (rT P t))]) C 0 dX2_reckonWeek_67 rfl rfl (by decide) rfl ?_
  refine v_goto (tgt := 53) C dX2_reckonWeek_70 (by decide) ?_
  refine v_iload_n C 0 dX2_reckonWeek_53 rfl ?_
  refine v_iconst (v := 4) C dX2_reckonWeek_54 rfl ?_
  refine v_icmp_ge (tgt := 73) C dX2_reckonWeek_55 (by decide) (fun h9 => absurd h9 (by decide)) (fun _ => ?_)
  refine v_aload_n C 1 dX2_reckonWeek_58 rfl ?_
  refine v_gTu C ht 3 (by decide) k_129 rfl dX2_reckonWeek_59 ?_
  refine v_iload_n C 0 dX2_reckonWeek_62 rfl ?_
  refine v_aaFk C 2 ht tn_2 in4_2 dX2_reckonWeek_63 ?_
  refine go_V (run_VN C (u_X0_deliver (by omega)) k_454 k_4 (List.mem_of_getElem? (i := 14) rfl) k_453 ks_21 dd_X0_deliver ⟨Nat.le_of_ble_eq_true rfl, Nat.le_of_ble_eq_true rfl⟩ (rcF (by omega)) rfl (Nat.le_of_ble_eq_true rfl) dX2_reckonWeek_64 ⟨Nat.le_of_ble_eq_true rfl, Nat.le_of_ble_eq_true rfl⟩) ?_
  refine v_iinc (b := 3) (lv' := [(1, .int 3), (0, .ref (rT P t))]) C 0 dX2_reckonWeek_67 rfl rfl (by decide) rfl ?_
  refine v_goto (tgt := 53) C dX2_reckonWeek_70 (by decide) ?_
  refine v_iload_n C 0 dX2_reckonWeek_53 rfl ?_
  refine v_iconst (v := 4) C dX2_reckonWeek_54 rfl ?_
  refine v_icmp_ge (tgt := 73) C dX2_reckonWeek_55 (by decide) (fun h9 => absurd h9 (by decide)) (fun _ => ?_)
  refine v_aload_n C 1 dX2_reckonWeek_58 rfl ?_
  refine v_gTu C ht 3 (by decide) k_129 rfl dX2_reckonWeek_59 ?_
  refine v_iload_n C 0 dX2_reckonWeek_62 rfl ?_
  refine v_aaFk C 3 ht tn_3 in4_3 dX2_reckonWeek_63 ?_
  refine go_V (run_VN C (u_X0_deliver (by omega)) k_454 k_4 (List.mem_of_getElem? (i := 14) rfl) k_453 ks_21 dd_X0_deliver ⟨Nat.le_of_ble_eq_true rfl, Nat.le_of_ble_eq_true rfl⟩ (rcF (by omega)) rfl (Nat.le_of_ble_eq_true rfl) dX2_reckonWeek_64 ⟨Nat.le_of_ble_eq_true rfl, Nat.le_of_ble_eq_true rfl⟩) ?_
  refine v_iinc (b := 4) (lv' := [(1, .int 4), (0, .ref (rT P t))]) C 0 dX2_reckonWeek_67 rfl rfl (by decide) rfl ?_
  refine v_goto (tgt := 53) C dX2_reckonWeek_70 (by decide) ?_
  refine v_iload_n C 0 dX2_reckonWeek_53 rfl ?_
  refine v_iconst (v := 4) C dX2_reckonWeek_54 rfl ?_
  refine v_icmp_ge (tgt := 73) C dX2_reckonWeek_55 (by decide) (fun _ => ?_) (fun h9 => absurd (by decide) h9)
  exact v_vret C dX2_reckonWeek_73 rfl
set_option maxHeartbeats 4000000 in
set_option maxRecDepth 100000 in
theorem c_X2_goByOne {l : Launch} {P : L5} {D : va_G} {N F T : Nat → Nat → Int32} {K : Nat → Int32} {A : Nat → Nat → Int32} {w : Int64} {t : Nat} (ht : t < 2) {c : Nat} (hc : T t 1 = nI c) (h12 : c ≤ 12) (hKF : KF N (12 * t) c) : CtI l yX2_goByOne cX2_goByOne 3 .int 4 0 0 P D 97 97 False (cw P N F T K A w) (cw P (hourN c (12 * t) (4 * t) (T t 0) N F).1 (hourN c (12 * t) (4 * t) (T t 0) N F).2 (hourT T t) K A w) [.ref (rT P t)] (hourG c (12 * t) N) := by
  refine mk_Met pl_X2 [(0, .ref (rT P t))] rfl (Nat.le_of_ble_eq_true rfl) ?_
  intro p e s m args below meth cd C
  refine v_iconst (v := 0) C dX2_goByOne_0 rfl ?_
  refine v_istore_n (lv' := [(1, .int 0), (0, .ref (rT P t))]) C dX2_goByOne_1 rfl (by decide) rfl ?_
  refine v_iconst (v := 0) C dX2_goByOne_2 rfl ?_
  refine v_istore_n (lv' := [(2, .int 0), (1, .int 0), (0, .ref (rT P t))]) C dX2_goByOne_3 rfl (by decide) rfl ?_
  have L_1 : ∀ (n : Nat) (i : Nat) (N9 : Nat → Nat → Int32) (sm : Int32), i ≤ c → c < i + n → KF N9 (12 * t) c → V p l e (rmO 4 0 0) s m args below meth cd P D (MQ below (QcI P D 97 False (cw P (hourN c (12 * t) (4 * t) (T t 0) N F).1 (hourN c (12 * t) (4 * t) (T t 0) N F).2 (hourT T t) K A w) (hourG c (12 * t) N)) args s 0 0 (aO P)) 3 97 False (cw P (goN n c (12 * t) i N9 sm).1 F T K A w) 0 0 30 [(1, .int ((goN n c (12 * t) i N9 sm).2)), (0, .ref (rT P t))] [] → V p l e (rmO 4 0 0) s m args below meth cd P D (MQ below (QcI P D 97 False (cw P (hourN c (12 * t) (4 * t) (T t 0) N F).1 (hourN c (12 * t) (4 * t) (T t 0) N F).2 (hourT T t) K A w) (hourG c (12 * t) N)) args s 0 0 (aO P)) 3 97 False (cw P N9 F T K A w) 0 0 4 [(2, .int (nI i)), (1, .int sm), (0, .ref (rT P t))] [] := by
    intro n
    induction n with
    | zero => intro i N9 sm h1 h2; omega
    | succ n ih =>
      intro i N9 sm h1 h2 hK9 hk9
      refine v_iload_n C 0 dX2_goByOne_4 rfl ?_
      refine v_aload_n C 2 dX2_goByOne_5 rfl ?_
      refine v_gTu C ht 1 (by decide) k_125 rfl dX2_goByOne_6 ?_
      refine v_icmp_ge (tgt := 30) C dX2_goByOne_9 (by decide) (fun h9_1 => ?_) (fun h9_1 => ?_)
      · refine v_lv [1, 2] rfl ?_
        have hic : c ≤ i := (leC hc h12 h1).mp h9_1
        have e9 : goN (n + 1) c (12 * t) i N9 sm = (N9, sm) := by rw [goN, if_pos hic]
        rw [e9] at hk9
        exact hk9
      · have hic : i < c := Nat.not_le.mp (fun q => h9_1 ((leC hc h12 h1).mpr q))
        refine v_iload_n C 1 dX2_goByOne_12 rfl ?_
        refine v_aload_n C 2 dX2_goByOne_13 rfl ?_
        refine v_gTu C ht 2 (by decide) k_127 rfl dX2_goByOne_14 ?_
        refine v_iload_n C 0 dX2_goByOne_17 rfl ?_
        refine v_aaNk C i ht (nI_clamp (by omega)) (vp_in_nI (by omega) (by omega)) dX2_goByOne_18 ?_
        refine go_I (run_VN C (u_X1_workHour (by omega) (hK9 i hic).1) k_411 k_3 (List.mem_of_getElem? (i := 11) rfl) k_410 ks_13 dd_X1_workHour ⟨Nat.le_of_ble_eq_true rfl, Nat.le_of_ble_eq_true rfl⟩ (rcN (by omega)) rfl (Nat.le_of_ble_eq_true rfl) dX2_goByOne_19 ⟨Nat.le_of_ble_eq_true rfl, Nat.le_of_ble_eq_true rfl⟩) ?_
        refine v_iadd C dX2_goByOne_22 ?_
        refine v_top (fun x_1 ex_1 => ?_)
        refine v_istore_n (lv' := [(1, .int x_1), (2, .int (nI i)), (0, .ref (rT P t))]) C dX2_goByOne_23 rfl (by decide) rfl ?_
        refine v_iinc (b := (nI (i + 1))) (lv' := [(2, .int (nI (i + 1))), (1, .int x_1), (0, .ref (rT P t))]) C 1 dX2_goByOne_24 rfl (nI_1 _) (by decide) rfl ?_
        refine v_goto (tgt := 4) C dX2_goByOne_27 (by decide) ?_
        have e9 : goN (n + 1) c (12 * t) i N9 sm = goN n c (12 * t) (i + 1) (va_up N9 (12 * t + i) (workH (N9 (12 * t + i))).1) (sm + (workH (N9 (12 * t + i))).2) := by rw [goN, if_neg (by omega)]
        rw [e9] at hk9
        subst ex_1
        exact ih _ _ _ (by omega) (by omega) (KF_up hK9 (workH_1 _) (workH_2 _)) hk9
  refine L_1 (c + 1) 0 N 0 (by omega) (by omega) hKF ?_
  refine v_aload_n C 1 dX2_goByOne_30 rfl ?_
  refine v_gTu C ht 0 (by decide) k_124 rfl dX2_goByOne_31 ?_
  refine v_bipush (v := 48) C dX2_goByOne_34 rfl ?_
  refine v_irem C dX2_goByOne_36 (by decide) ?_
  refine v_bipush (v := 47) C dX2_goByOne_37 rfl ?_
  refine v_icmp_ne (tgt := 46) C dX2_goByOne_39 (by decide) (fun h39_1 => ?_) (fun h39_1 => ?_)
  · refine v_eq (f' := (cw P (goN (c + 1) c (12 * t) 0 N 0).1 F (va_up T t (T t)) K A w)) (by rw [va_up_eta]) ?_
    refine v_aload_n C 1 dX2_goByOne_46 rfl ?_
    refine v_dup C dX2_goByOne_47 rfl ?_
    refine v_gT C ht 0 (by decide) k_124 rfl dX2_goByOne_48 ?_
    refine v_iconst (v := 1) C dX2_goByOne_51 rfl ?_
    refine v_iadd C dX2_goByOne_52 ?_
    refine v_pT C ht 0 (by decide) k_124 dX2_goByOne_53 ?_
    refine v_iload_n C 0 dX2_goByOne_56 rfl ?_
    exact v_iret C dX2_goByOne_57 (by rw [hourN, if_neg (by exact h39_1)]; rfl) rfl
  · refine v_aload_n C 1 dX2_goByOne_42 rfl ?_
    refine go_V (run_V C (c_X2_reckonWeek ht hc h12 (KF_goN _ _ _ _ hKF)) k_439 k_2 k_436 k_438 ks_18 dd_X2_reckonWeek ⟨Nat.le_of_ble_eq_true rfl, Nat.le_of_ble_eq_true rfl⟩ (rcT ht) rfl (Nat.le_of_ble_eq_true rfl) dX2_goByOne_43 ⟨Nat.le_of_ble_eq_true rfl, Nat.le_of_ble_eq_true rfl⟩) ?_
    refine v_eq (f' := (cw P (weekR c (12 * t) (4 * t) (goN (c + 1) c (12 * t) 0 N 0).1 F).1 (weekR c (12 * t) (4 * t) (goN (c + 1) c (12 * t) 0 N 0).1 F).2 (va_up T t (T t)) K A w)) (by rw [va_up_eta]) ?_
    refine v_aload_n C 1 dX2_goByOne_46 rfl ?_
    refine v_dup C dX2_goByOne_47 rfl ?_
    refine v_gT C ht 0 (by decide) k_124 rfl dX2_goByOne_48 ?_
    refine v_iconst (v := 1) C dX2_goByOne_51 rfl ?_
    refine v_iadd C dX2_goByOne_52 ?_
    refine v_pT C ht 0 (by decide) k_124 dX2_goByOne_53 ?_
    refine v_iload_n C 0 dX2_goByOne_56 rfl ?_
    exact v_iret C dX2_goByOne_57 (by rw [hourN, if_pos (by exact h39_1)]; rfl) rfl
set_option maxHeartbeats 4000000 in
set_option maxRecDepth 100000 in
theorem c_X2_goBy {l : Launch} {P : L5} {D : va_G} {N F T : Nat → Nat → Int32} {K : Nat → Int32} {A : Nat → Nat → Int32} {w : Int64} {t : Nat} (ht : t < 2) {c : Nat} (hc : T t 1 = nI c) (h12 : c ≤ 12) (hKF : KF N (12 * t) c) {h : Int32} : CtI l yX2_goBy cX2_goBy 4 .int 5 0 0 P D 97 97 False (cw P N F T K A w) (cw P (goB (fuel h 0) h 0 c t N F T 0).1 (goB (fuel h 0) h 0 c t N F T 0).2.1 (goB (fuel h 0) h 0 c t N F T 0).2.2.1 K A w) [.ref (rT P t), .int h] (goB (fuel h 0) h 0 c t N F T 0).2.2.2 := by
  refine mk_Met pl_X2 [(0, .ref (rT P t)), (1, .int h)] rfl (Nat.le_of_ble_eq_true rfl) ?_
  intro p e s m args below meth cd C
  refine v_iconst (v := 0) C dX2_goBy_0 rfl ?_
  refine v_istore_n (lv' := [(2, .int 0), (0, .ref (rT P t)), (1, .int h)]) C dX2_goBy_1 rfl (by decide) rfl ?_
  refine v_iconst (v := 0) C dX2_goBy_2 rfl ?_
  refine v_istore_n (lv' := [(3, .int 0), (2, .int 0), (0, .ref (rT P t)), (1, .int h)]) C dX2_goBy_3 rfl (by decide) rfl ?_
  have L_1 : ∀ (n : Nat) (i : Int32) (N9 F9 T9 : Nat → Nat → Int32) (sm : Int32), fuel h i ≤ n → T9 t 1 = nI c → KF N9 (12 * t) c → V p l e (rmO 5 0 0) s m args below meth cd P D (MQ below (QcI P D 97 False (cw P (goB (fuel h 0) h 0 c t N F T 0).1 (goB (fuel h 0) h 0 c t N F T 0).2.1 (goB (fuel h 0) h 0 c t N F T 0).2.2.1 K A w) (goB (fuel h 0) h 0 c t N F T 0).2.2.2) args s 0 0 (aO P)) 4 97 False (cw P (goB n h i c t N9 F9 T9 sm).1 (goB n h i c t N9 F9 T9 sm).2.1 (goB n h i c t N9 F9 T9 sm).2.2.1 K A w) 0 0 22 [(2, .int ((goB n h i c t N9 F9 T9 sm).2.2.2))] [] → V p l e (rmO 5 0 0) s m args below meth cd P D (MQ below (QcI P D 97 False (cw P (goB (fuel h 0) h 0 c t N F T 0).1 (goB (fuel h 0) h 0 c t N F T 0).2.1 (goB (fuel h 0) h 0 c t N F T 0).2.2.1 K A w) (goB (fuel h 0) h 0 c t N F T 0).2.2.2) args s 0 0 (aO P)) 4 97 False (cw P N9 F9 T9 K A w) 0 0 4 [(3, .int i), (2, .int sm), (0, .ref (rT P t)), (1, .int h)] [] := by
    intro n
    induction n with
    | zero => intro i N9 F9 T9 sm h9; exact absurd h9 (by unfold fuel; omega)
    | succ n ih =>
      intro i N9 F9 T9 sm h9 hc9 hK9 hk9
      refine v_iload_n C 0 dX2_goBy_4 rfl ?_
      refine v_iload_n C 3 dX2_goBy_5 rfl ?_
      refine v_icmp_ge (tgt := 22) C dX2_goBy_6 (by decide) (fun h6_1 => ?_) (fun h6_1 => ?_)
      · refine v_lv [1] rfl ?_
        have e9 : goB (n + 1) h i c t N9 F9 T9 sm = (N9, F9, T9, sm) := by rw [goB, if_pos h6_1]
        rw [e9] at hk9
        exact hk9
      · refine v_iload_n C 1 dX2_goBy_9 rfl ?_
        refine v_aload_n C 2 dX2_goBy_10 rfl ?_
        refine go_I (run_V C (c_X2_goByOne ht hc9 h12 hK9) k_407 k_2 k_404 k_406 ks_12 dd_X2_goByOne ⟨Nat.le_of_ble_eq_true rfl, Nat.le_of_ble_eq_true rfl⟩ (rcT ht) rfl (Nat.le_of_ble_eq_true rfl) dX2_goBy_11 ⟨Nat.le_of_ble_eq_true rfl, Nat.le_of_ble_eq_true rfl⟩) ?_
        refine v_iadd C dX2_goBy_14 ?_
        refine v_top (fun x_1 ex_1 => ?_)
        refine v_istore_n (lv' := [(2, .int x_1), (3, .int i), (0, .ref (rT P t)), (1, .int h)]) C dX2_goBy_15 rfl (by decide) rfl ?_
        obtain ⟨x_2, ex_2⟩ : ∃ y : Int32, y = i + 1 := ⟨_, rfl⟩
        refine v_iinc (b := x_2) (lv' := [(3, .int x_2), (2, .int x_1), (0, .ref (rT P t)), (1, .int h)]) C 1 dX2_goBy_16 rfl (by rw [ex_2]; rfl) (by decide) rfl ?_
        refine v_goto (tgt := 4) C dX2_goBy_19 (by decide) ?_
        have e9 : goB (n + 1) h i c t N9 F9 T9 sm = goB n h (i + 1) c t (hourN c (12 * t) (4 * t) (T9 t 0) N9 F9).1 (hourN c (12 * t) (4 * t) (T9 t 0) N9 F9).2 (hourT T9 t) (sm + hourG c (12 * t) N9) := by rw [goB, if_neg h6_1]
        rw [e9] at hk9
        subst ex_1 ex_2
        exact ih _ _ _ _ _ (fuel_step h9 h6_1) (by unfold hourT; rw [va_up_self]; exact hc9) (KF_hour hK9) hk9
  refine L_1 (fuel h 0) 0 N F T 0 (Nat.le_refl _) hc hKF ?_
  refine v_iload_n C 0 dX2_goBy_22 rfl ?_
  exact v_iret C dX2_goBy_23 rfl rfl
set_option maxHeartbeats 4000000 in
set_option maxRecDepth 100000 in
theorem c_X2_warehouseBags {l : Launch} {P : L5} {D : va_G} {N F T : Nat → Nat → Int32} {K : Nat → Int32} {A : Nat → Nat → Int32} {w : Int64} {t : Nat} (ht : t < 2) : CtI l yX2_warehouseBags cX2_warehouseBags 3 .int 1 0 0 P D 97 97 False (cw P N F T K A w) (cw P N F T K A w) [.ref (rT P t)] (boughtF F (4 * t)) := by
  refine mk_Met pl_X2 [(0, .ref (rT P t))] rfl (Nat.le_of_ble_eq_true rfl) ?_
  intro p e s m args below meth cd C
  refine v_iconst (v := 0) C dX2_warehouseBags_0 rfl ?_
  refine v_istore_n (lv' := [(1, .int 0), (0, .ref (rT P t))]) C dX2_warehouseBags_1 rfl (by decide) rfl ?_
  refine v_iconst (v := 0) C dX2_warehouseBags_2 rfl ?_
  refine v_istore_n (lv' := [(2, .int 0), (1, .int 0), (0, .ref (rT P t))]) C dX2_warehouseBags_3 rfl (by decide) rfl ?_
  refine v_iload_n C 0 dX2_warehouseBags_4 rfl ?_
  refine v_iconst (v := 4) C dX2_warehouseBags_5 rfl ?_
  refine v_icmp_ge (tgt := 27) C dX2_warehouseBags_6 (by decide) (fun h9 => absurd h9 (by decide)) (fun _ => ?_)
  refine v_iload_n C 1 dX2_warehouseBags_9 rfl ?_
  refine v_aload_n C 2 dX2_warehouseBags_10 rfl ?_
  refine v_gTu C ht 3 (by decide) k_129 rfl dX2_warehouseBags_11 ?_
  refine v_iload_n C 0 dX2_warehouseBags_14 rfl ?_
  refine v_aaFk C 0 ht tn_0 in4_0 dX2_warehouseBags_15 ?_
  refine v_gFuN C (by omega) 2 (by decide) (List.mem_of_getElem? (i := 16) rfl) rfl dX2_warehouseBags_16 ?_
  refine v_iadd C dX2_warehouseBags_19 ?_
  refine v_top (fun x_1 ex_1 => ?_)
  refine v_istore_n (lv' := [(1, .int x_1), (2, .int 0), (0, .ref (rT P t))]) C dX2_warehouseBags_20 rfl (by decide) rfl ?_
  refine v_iinc (b := 1) (lv' := [(2, .int 1), (1, .int x_1), (0, .ref (rT P t))]) C 1 dX2_warehouseBags_21 rfl rfl (by decide) rfl ?_
  refine v_goto (tgt := 4) C dX2_warehouseBags_24 (by decide) ?_
  refine v_iload_n C 0 dX2_warehouseBags_4 rfl ?_
  refine v_iconst (v := 4) C dX2_warehouseBags_5 rfl ?_
  refine v_icmp_ge (tgt := 27) C dX2_warehouseBags_6 (by decide) (fun h9 => absurd h9 (by decide)) (fun _ => ?_)
  refine v_iload_n C 1 dX2_warehouseBags_9 rfl ?_
  refine v_aload_n C 2 dX2_warehouseBags_10 rfl ?_
  refine v_gTu C ht 3 (by decide) k_129 rfl dX2_warehouseBags_11 ?_
  refine v_iload_n C 0 dX2_warehouseBags_14 rfl ?_
  refine v_aaFk C 1 ht tn_1 in4_1 dX2_warehouseBags_15 ?_
  refine v_gFuN C (by omega) 2 (by decide) (List.mem_of_getElem? (i := 16) rfl) rfl dX2_warehouseBags_16 ?_
  refine v_iadd C dX2_warehouseBags_19 ?_
  refine v_top (fun x_2 ex_2 => ?_)
  refine v_istore_n (lv' := [(1, .int x_2), (2, .int 1), (0, .ref (rT P t))]) C dX2_warehouseBags_20 rfl (by decide) rfl ?_
  refine v_iinc (b := 2) (lv' := [(2, .int 2), (1, .int x_2), (0, .ref (rT P t))]) C 1 dX2_warehouseBags_21 rfl rfl (by decide) rfl ?_
  refine v_goto (tgt := 4) C dX2_warehouseBags_24 (by decide) ?_
  refine v_iload_n C 0 dX2_warehouseBags_4 rfl ?_
  refine v_iconst (v := 4) C dX2_warehouseBags_5 rfl ?_
  refine v_icmp_ge (tgt := 27) C dX2_warehouseBags_6 (by decide) (fun h9 => absurd h9 (by decide)) (fun _ => ?_)
  refine v_iload_n C 1 dX2_warehouseBags_9 rfl ?_
  refine v_aload_n C 2 dX2_warehouseBags_10 rfl ?_
  refine v_gTu C ht 3 (by decide) k_129 rfl dX2_warehouseBags_11 ?_
  refine v_iload_n C 0 dX2_warehouseBags_14 rfl ?_
  refine v_aaFk C 2 ht tn_2 in4_2 dX2_warehouseBags_15 ?_
  refine v_gFuN C (by omega) 2 (by decide) (List.mem_of_getElem? (i := 16) rfl) rfl dX2_warehouseBags_16 ?_
  refine v_iadd C dX2_warehouseBags_19 ?_
  refine v_top (fun x_3 ex_3 => ?_)
  refine v_istore_n (lv' := [(1, .int x_3), (2, .int 2), (0, .ref (rT P t))]) C dX2_warehouseBags_20 rfl (by decide) rfl ?_
  refine v_iinc (b := 3) (lv' := [(2, .int 3), (1, .int x_3), (0, .ref (rT P t))]) C 1 dX2_warehouseBags_21 rfl rfl (by decide) rfl ?_
  refine v_goto (tgt := 4) C dX2_warehouseBags_24 (by decide) ?_
  refine v_iload_n C 0 dX2_warehouseBags_4 rfl ?_
  refine v_iconst (v := 4) C dX2_warehouseBags_5 rfl ?_
  refine v_icmp_ge (tgt := 27) C dX2_warehouseBags_6 (by decide) (fun h9 => absurd h9 (by decide)) (fun _ => ?_)
  refine v_iload_n C 1 dX2_warehouseBags_9 rfl ?_
  refine v_aload_n C 2 dX2_warehouseBags_10 rfl ?_
  refine v_gTu C ht 3 (by decide) k_129 rfl dX2_warehouseBags_11 ?_
  refine v_iload_n C 0 dX2_warehouseBags_14 rfl ?_
  refine v_aaFk C 3 ht tn_3 in4_3 dX2_warehouseBags_15 ?_
  refine v_gFuN C (by omega) 2 (by decide) (List.mem_of_getElem? (i := 16) rfl) rfl dX2_warehouseBags_16 ?_
  refine v_iadd C dX2_warehouseBags_19 ?_
  refine v_top (fun x_4 ex_4 => ?_)
  refine v_istore_n (lv' := [(1, .int x_4), (2, .int 3), (0, .ref (rT P t))]) C dX2_warehouseBags_20 rfl (by decide) rfl ?_
  refine v_iinc (b := 4) (lv' := [(2, .int 4), (1, .int x_4), (0, .ref (rT P t))]) C 1 dX2_warehouseBags_21 rfl rfl (by decide) rfl ?_
  refine v_goto (tgt := 4) C dX2_warehouseBags_24 (by decide) ?_
  refine v_iload_n C 0 dX2_warehouseBags_4 rfl ?_
  refine v_iconst (v := 4) C dX2_warehouseBags_5 rfl ?_
  refine v_icmp_ge (tgt := 27) C dX2_warehouseBags_6 (by decide) (fun _ => ?_) (fun h9 => absurd (by decide) h9)
  refine v_iload_n C 1 dX2_warehouseBags_27 rfl ?_
  exact v_iret C dX2_warehouseBags_28 rfl (by subst ex_1 ex_2 ex_3 ex_4; rfl)
set_option maxHeartbeats 4000000 in
set_option maxRecDepth 100000 in
theorem c_X2_sumOfShares_2 {l : Launch} {P : L5} {D : va_G} {N F T : Nat → Nat → Int32} {K : Nat → Int32} {A : Nat → Nat → Int32} {w : Int64} {t : Nat} (ht : t < 2) {c : Nat} (hc : T t 1 = nI c) (h12 : c ≤ 12) : CtI l yX2_sumOfShares cX2_sumOfShares 4 .int 3 0 0 P D 97 97 False (cw P N F T K A w) (cw P N F T K A w) [.ref (rT P t), .int 2] (shS (c + 1) 2 c (12 * t) 0 N 0) := by
  refine mk_Met pl_X2 [(0, .ref (rT P t)), (1, .int 2)] rfl (Nat.le_of_ble_eq_true rfl) ?_
  intro p e s m args below meth cd C
  refine v_iconst (v := 0) C dX2_sumOfShares_0 rfl ?_
  refine v_istore_n (lv' := [(2, .int 0), (0, .ref (rT P t)), (1, .int 2)]) C dX2_sumOfShares_1 rfl (by decide) rfl ?_
  refine v_iconst (v := 0) C dX2_sumOfShares_2 rfl ?_
  refine v_istore_n (lv' := [(3, .int 0), (2, .int 0), (0, .ref (rT P t)), (1, .int 2)]) C dX2_sumOfShares_3 rfl (by decide) rfl ?_
  have L_1 : ∀ (n : Nat) (i : Nat) (sm : Int32), i ≤ c → c < i + n → V p l e (rmO 3 0 0) s m args below meth cd P D (MQ below (QcI P D 97 False (cw P N F T K A w) (shS (c + 1) 2 c (12 * t) 0 N 0)) args s 0 0 (aO P)) 4 97 False (cw P N F T K A w) 0 0 31 [(2, .int (shS n 2 c (12 * t) i N sm))] [] → V p l e (rmO 3 0 0) s m args below meth cd P D (MQ below (QcI P D 97 False (cw P N F T K A w) (shS (c + 1) 2 c (12 * t) 0 N 0)) args s 0 0 (aO P)) 4 97 False (cw P N F T K A w) 0 0 4 [(3, .int (nI i)), (2, .int sm), (0, .ref (rT P t)), (1, .int 2)] [] := by
    intro n
    induction n with
    | zero => intro i sm h1 h2; omega
    | succ n ih =>
      intro i sm h1 h2 hk9
      refine v_iload_n C 0 dX2_sumOfShares_4 rfl ?_
      refine v_aload_n C 2 dX2_sumOfShares_5 rfl ?_
      refine v_gTu C ht 1 (by decide) k_125 rfl dX2_sumOfShares_6 ?_
      refine v_icmp_ge (tgt := 31) C dX2_sumOfShares_9 (by decide) (fun h9_1 => ?_) (fun h9_1 => ?_)
      · refine v_lv [1] rfl ?_
        have hic : c ≤ i := (leC hc h12 h1).mp h9_1
        have e9 : shS (n + 1) 2 c (12 * t) i N sm = sm := by rw [shS, if_pos hic]
        rw [e9] at hk9
        exact hk9
      · have hic : i < c := Nat.not_le.mp (fun q => h9_1 ((leC hc h12 h1).mpr q))
        refine v_iload_n C 1 dX2_sumOfShares_12 rfl ?_
        refine v_aload_n C 2 dX2_sumOfShares_13 rfl ?_
        refine v_gTu C ht 2 (by decide) k_127 rfl dX2_sumOfShares_14 ?_
        refine v_iload_n C 0 dX2_sumOfShares_17 rfl ?_
        refine v_aaNk C i ht (nI_clamp (by omega)) (vp_in_nI (by omega) (by omega)) dX2_sumOfShares_18 ?_
        refine v_iload_n C 3 dX2_sumOfShares_19 rfl ?_
        refine go_I (run_VN C (c_X1_shareOfTotal_2 (by omega)) k_181 k_3 (List.mem_of_getElem? (i := 5) rfl) k_180 ks_3 dd_X1_shareOfTotal ⟨Nat.le_of_ble_eq_true rfl, Nat.le_of_ble_eq_true rfl⟩ (rcN (by omega)) rfl (Nat.le_of_ble_eq_true rfl) dX2_sumOfShares_20 ⟨Nat.le_of_ble_eq_true rfl, Nat.le_of_ble_eq_true rfl⟩) ?_
        refine v_iadd C dX2_sumOfShares_23 ?_
        refine v_top (fun x_1 ex_1 => ?_)
        refine v_istore_n (lv' := [(2, .int x_1), (3, .int (nI i)), (0, .ref (rT P t)), (1, .int 2)]) C dX2_sumOfShares_24 rfl (by decide) rfl ?_
        refine v_iinc (b := (nI (i + 1))) (lv' := [(3, .int (nI (i + 1))), (2, .int x_1), (0, .ref (rT P t)), (1, .int 2)]) C 1 dX2_sumOfShares_25 rfl (nI_1 _) (by decide) rfl ?_
        refine v_goto (tgt := 4) C dX2_sumOfShares_28 (by decide) ?_
        have e9 : shS (n + 1) 2 c (12 * t) i N sm = shS n 2 c (12 * t) (i + 1) N (sm + share (N (12 * t + i)) 2) := by rw [shS, if_neg (by omega)]
        rw [e9] at hk9
        subst ex_1
        exact ih _ _ (by omega) (by omega) hk9
  refine L_1 (c + 1) 0 0 (by omega) (by omega) ?_
  refine v_iload_n C 0 dX2_sumOfShares_31 rfl ?_
  exact v_iret C dX2_sumOfShares_32 rfl rfl
set_option maxHeartbeats 4000000 in
set_option maxRecDepth 100000 in
theorem c_X2_sumOfShares_3 {l : Launch} {P : L5} {D : va_G} {N F T : Nat → Nat → Int32} {K : Nat → Int32} {A : Nat → Nat → Int32} {w : Int64} {t : Nat} (ht : t < 2) {c : Nat} (hc : T t 1 = nI c) (h12 : c ≤ 12) : CtI l yX2_sumOfShares cX2_sumOfShares 4 .int 3 0 0 P D 97 97 False (cw P N F T K A w) (cw P N F T K A w) [.ref (rT P t), .int 3] (shS (c + 1) 3 c (12 * t) 0 N 0) := by
  refine mk_Met pl_X2 [(0, .ref (rT P t)), (1, .int 3)] rfl (Nat.le_of_ble_eq_true rfl) ?_
  intro p e s m args below meth cd C
  refine v_iconst (v := 0) C dX2_sumOfShares_0 rfl ?_
  refine v_istore_n (lv' := [(2, .int 0), (0, .ref (rT P t)), (1, .int 3)]) C dX2_sumOfShares_1 rfl (by decide) rfl ?_
  refine v_iconst (v := 0) C dX2_sumOfShares_2 rfl ?_
  refine v_istore_n (lv' := [(3, .int 0), (2, .int 0), (0, .ref (rT P t)), (1, .int 3)]) C dX2_sumOfShares_3 rfl (by decide) rfl ?_
  have L_1 : ∀ (n : Nat) (i : Nat) (sm : Int32), i ≤ c → c < i + n → V p l e (rmO 3 0 0) s m args below meth cd P D (MQ below (QcI P D 97 False (cw P N F T K A w) (shS (c + 1) 3 c (12 * t) 0 N 0)) args s 0 0 (aO P)) 4 97 False (cw P N F T K A w) 0 0 31 [(2, .int (shS n 3 c (12 * t) i N sm))] [] → V p l e (rmO 3 0 0) s m args below meth cd P D (MQ below (QcI P D 97 False (cw P N F T K A w) (shS (c + 1) 3 c (12 * t) 0 N 0)) args s 0 0 (aO P)) 4 97 False (cw P N F T K A w) 0 0 4 [(3, .int (nI i)), (2, .int sm), (0, .ref (rT P t)), (1, .int 3)] [] := by
    intro n
    induction n with
    | zero => intro i sm h1 h2; omega
    | succ n ih =>
      intro i sm h1 h2 hk9
      refine v_iload_n C 0 dX2_sumOfShares_4 rfl ?_
      refine v_aload_n C 2 dX2_sumOfShares_5 rfl ?_
      refine v_gTu C ht 1 (by decide) k_125 rfl dX2_sumOfShares_6 ?_
      refine v_icmp_ge (tgt := 31) C dX2_sumOfShares_9 (by decide) (fun h9_1 => ?_) (fun h9_1 => ?_)
      · refine v_lv [1] rfl ?_
        have hic : c ≤ i := (leC hc h12 h1).mp h9_1
        have e9 : shS (n + 1) 3 c (12 * t) i N sm = sm := by rw [shS, if_pos hic]
        rw [e9] at hk9
        exact hk9
      · have hic : i < c := Nat.not_le.mp (fun q => h9_1 ((leC hc h12 h1).mpr q))
        refine v_iload_n C 1 dX2_sumOfShares_12 rfl ?_
        refine v_aload_n C 2 dX2_sumOfShares_13 rfl ?_
        refine v_gTu C ht 2 (by decide) k_127 rfl dX2_sumOfShares_14 ?_
        refine v_iload_n C 0 dX2_sumOfShares_17 rfl ?_
        refine v_aaNk C i ht (nI_clamp (by omega)) (vp_in_nI (by omega) (by omega)) dX2_sumOfShares_18 ?_
        refine v_iload_n C 3 dX2_sumOfShares_19 rfl ?_
        refine go_I (run_VN C (c_X1_shareOfTotal_3 (by omega)) k_181 k_3 (List.mem_of_getElem? (i := 5) rfl) k_180 ks_3 dd_X1_shareOfTotal ⟨Nat.le_of_ble_eq_true rfl, Nat.le_of_ble_eq_true rfl⟩ (rcN (by omega)) rfl (Nat.le_of_ble_eq_true rfl) dX2_sumOfShares_20 ⟨Nat.le_of_ble_eq_true rfl, Nat.le_of_ble_eq_true rfl⟩) ?_
        refine v_iadd C dX2_sumOfShares_23 ?_
        refine v_top (fun x_1 ex_1 => ?_)
        refine v_istore_n (lv' := [(2, .int x_1), (3, .int (nI i)), (0, .ref (rT P t)), (1, .int 3)]) C dX2_sumOfShares_24 rfl (by decide) rfl ?_
        refine v_iinc (b := (nI (i + 1))) (lv' := [(3, .int (nI (i + 1))), (2, .int x_1), (0, .ref (rT P t)), (1, .int 3)]) C 1 dX2_sumOfShares_25 rfl (nI_1 _) (by decide) rfl ?_
        refine v_goto (tgt := 4) C dX2_sumOfShares_28 (by decide) ?_
        have e9 : shS (n + 1) 3 c (12 * t) i N sm = shS n 3 c (12 * t) (i + 1) N (sm + share (N (12 * t + i)) 3) := by rw [shS, if_neg (by omega)]
        rw [e9] at hk9
        subst ex_1
        exact ih _ _ (by omega) (by omega) hk9
  refine L_1 (c + 1) 0 0 (by omega) (by omega) ?_
  refine v_iload_n C 0 dX2_sumOfShares_31 rfl ?_
  exact v_iret C dX2_sumOfShares_32 rfl rfl
set_option maxHeartbeats 4000000 in
set_option maxRecDepth 100000 in
theorem c_X2_sumOfShares_4 {l : Launch} {P : L5} {D : va_G} {N F T : Nat → Nat → Int32} {K : Nat → Int32} {A : Nat → Nat → Int32} {w : Int64} {t : Nat} (ht : t < 2) {c : Nat} (hc : T t 1 = nI c) (h12 : c ≤ 12) : CtI l yX2_sumOfShares cX2_sumOfShares 4 .int 3 0 0 P D 97 97 False (cw P N F T K A w) (cw P N F T K A w) [.ref (rT P t), .int 4] (shS (c + 1) 4 c (12 * t) 0 N 0) := by
  refine mk_Met pl_X2 [(0, .ref (rT P t)), (1, .int 4)] rfl (Nat.le_of_ble_eq_true rfl) ?_
  intro p e s m args below meth cd C
  refine v_iconst (v := 0) C dX2_sumOfShares_0 rfl ?_
  refine v_istore_n (lv' := [(2, .int 0), (0, .ref (rT P t)), (1, .int 4)]) C dX2_sumOfShares_1 rfl (by decide) rfl ?_
  refine v_iconst (v := 0) C dX2_sumOfShares_2 rfl ?_
  refine v_istore_n (lv' := [(3, .int 0), (2, .int 0), (0, .ref (rT P t)), (1, .int 4)]) C dX2_sumOfShares_3 rfl (by decide) rfl ?_
  have L_1 : ∀ (n : Nat) (i : Nat) (sm : Int32), i ≤ c → c < i + n → V p l e (rmO 3 0 0) s m args below meth cd P D (MQ below (QcI P D 97 False (cw P N F T K A w) (shS (c + 1) 4 c (12 * t) 0 N 0)) args s 0 0 (aO P)) 4 97 False (cw P N F T K A w) 0 0 31 [(2, .int (shS n 4 c (12 * t) i N sm))] [] → V p l e (rmO 3 0 0) s m args below meth cd P D (MQ below (QcI P D 97 False (cw P N F T K A w) (shS (c + 1) 4 c (12 * t) 0 N 0)) args s 0 0 (aO P)) 4 97 False (cw P N F T K A w) 0 0 4 [(3, .int (nI i)), (2, .int sm), (0, .ref (rT P t)), (1, .int 4)] [] := by
    intro n
    induction n with
    | zero => intro i sm h1 h2; omega
    | succ n ih =>
      intro i sm h1 h2 hk9
      refine v_iload_n C 0 dX2_sumOfShares_4 rfl ?_
      refine v_aload_n C 2 dX2_sumOfShares_5 rfl ?_
      refine v_gTu C ht 1 (by decide) k_125 rfl dX2_sumOfShares_6 ?_
      refine v_icmp_ge (tgt := 31) C dX2_sumOfShares_9 (by decide) (fun h9_1 => ?_) (fun h9_1 => ?_)
      · refine v_lv [1] rfl ?_
        have hic : c ≤ i := (leC hc h12 h1).mp h9_1
        have e9 : shS (n + 1) 4 c (12 * t) i N sm = sm := by rw [shS, if_pos hic]
        rw [e9] at hk9
        exact hk9
      · have hic : i < c := Nat.not_le.mp (fun q => h9_1 ((leC hc h12 h1).mpr q))
        refine v_iload_n C 1 dX2_sumOfShares_12 rfl ?_
        refine v_aload_n C 2 dX2_sumOfShares_13 rfl ?_
        refine v_gTu C ht 2 (by decide) k_127 rfl dX2_sumOfShares_14 ?_
        refine v_iload_n C 0 dX2_sumOfShares_17 rfl ?_
        refine v_aaNk C i ht (nI_clamp (by omega)) (vp_in_nI (by omega) (by omega)) dX2_sumOfShares_18 ?_
        refine v_iload_n C 3 dX2_sumOfShares_19 rfl ?_
        refine go_I (run_VN C (c_X1_shareOfTotal_4 (by omega)) k_181 k_3 (List.mem_of_getElem? (i := 5) rfl) k_180 ks_3 dd_X1_shareOfTotal ⟨Nat.le_of_ble_eq_true rfl, Nat.le_of_ble_eq_true rfl⟩ (rcN (by omega)) rfl (Nat.le_of_ble_eq_true rfl) dX2_sumOfShares_20 ⟨Nat.le_of_ble_eq_true rfl, Nat.le_of_ble_eq_true rfl⟩) ?_
        refine v_iadd C dX2_sumOfShares_23 ?_
        refine v_top (fun x_1 ex_1 => ?_)
        refine v_istore_n (lv' := [(2, .int x_1), (3, .int (nI i)), (0, .ref (rT P t)), (1, .int 4)]) C dX2_sumOfShares_24 rfl (by decide) rfl ?_
        refine v_iinc (b := (nI (i + 1))) (lv' := [(3, .int (nI (i + 1))), (2, .int x_1), (0, .ref (rT P t)), (1, .int 4)]) C 1 dX2_sumOfShares_25 rfl (nI_1 _) (by decide) rfl ?_
        refine v_goto (tgt := 4) C dX2_sumOfShares_28 (by decide) ?_
        have e9 : shS (n + 1) 4 c (12 * t) i N sm = shS n 4 c (12 * t) (i + 1) N (sm + share (N (12 * t + i)) 4) := by rw [shS, if_neg (by omega)]
        rw [e9] at hk9
        subst ex_1
        exact ih _ _ (by omega) (by omega) hk9
  refine L_1 (c + 1) 0 0 (by omega) (by omega) ?_
  refine v_iload_n C 0 dX2_sumOfShares_31 rfl ?_
  exact v_iret C dX2_sumOfShares_32 rfl rfl
set_option maxHeartbeats 4000000 in
set_option maxRecDepth 100000 in
theorem c_X2_sumOfShares_5 {l : Launch} {P : L5} {D : va_G} {N F T : Nat → Nat → Int32} {K : Nat → Int32} {A : Nat → Nat → Int32} {w : Int64} {t : Nat} (ht : t < 2) {c : Nat} (hc : T t 1 = nI c) (h12 : c ≤ 12) : CtI l yX2_sumOfShares cX2_sumOfShares 4 .int 3 0 0 P D 97 97 False (cw P N F T K A w) (cw P N F T K A w) [.ref (rT P t), .int 5] (shS (c + 1) 5 c (12 * t) 0 N 0) := by
  refine mk_Met pl_X2 [(0, .ref (rT P t)), (1, .int 5)] rfl (Nat.le_of_ble_eq_true rfl) ?_
  intro p e s m args below meth cd C
  refine v_iconst (v := 0) C dX2_sumOfShares_0 rfl ?_
  refine v_istore_n (lv' := [(2, .int 0), (0, .ref (rT P t)), (1, .int 5)]) C dX2_sumOfShares_1 rfl (by decide) rfl ?_
  refine v_iconst (v := 0) C dX2_sumOfShares_2 rfl ?_
  refine v_istore_n (lv' := [(3, .int 0), (2, .int 0), (0, .ref (rT P t)), (1, .int 5)]) C dX2_sumOfShares_3 rfl (by decide) rfl ?_
  have L_1 : ∀ (n : Nat) (i : Nat) (sm : Int32), i ≤ c → c < i + n → V p l e (rmO 3 0 0) s m args below meth cd P D (MQ below (QcI P D 97 False (cw P N F T K A w) (shS (c + 1) 5 c (12 * t) 0 N 0)) args s 0 0 (aO P)) 4 97 False (cw P N F T K A w) 0 0 31 [(2, .int (shS n 5 c (12 * t) i N sm))] [] → V p l e (rmO 3 0 0) s m args below meth cd P D (MQ below (QcI P D 97 False (cw P N F T K A w) (shS (c + 1) 5 c (12 * t) 0 N 0)) args s 0 0 (aO P)) 4 97 False (cw P N F T K A w) 0 0 4 [(3, .int (nI i)), (2, .int sm), (0, .ref (rT P t)), (1, .int 5)] [] := by
    intro n
    induction n with
    | zero => intro i sm h1 h2; omega
    | succ n ih =>
      intro i sm h1 h2 hk9
      refine v_iload_n C 0 dX2_sumOfShares_4 rfl ?_
      refine v_aload_n C 2 dX2_sumOfShares_5 rfl ?_
      refine v_gTu C ht 1 (by decide) k_125 rfl dX2_sumOfShares_6 ?_
      refine v_icmp_ge (tgt := 31) C dX2_sumOfShares_9 (by decide) (fun h9_1 => ?_) (fun h9_1 => ?_)
      · refine v_lv [1] rfl ?_
        have hic : c ≤ i := (leC hc h12 h1).mp h9_1
        have e9 : shS (n + 1) 5 c (12 * t) i N sm = sm := by rw [shS, if_pos hic]
        rw [e9] at hk9
        exact hk9
      · have hic : i < c := Nat.not_le.mp (fun q => h9_1 ((leC hc h12 h1).mpr q))
        refine v_iload_n C 1 dX2_sumOfShares_12 rfl ?_
        refine v_aload_n C 2 dX2_sumOfShares_13 rfl ?_
        refine v_gTu C ht 2 (by decide) k_127 rfl dX2_sumOfShares_14 ?_
        refine v_iload_n C 0 dX2_sumOfShares_17 rfl ?_
        refine v_aaNk C i ht (nI_clamp (by omega)) (vp_in_nI (by omega) (by omega)) dX2_sumOfShares_18 ?_
        refine v_iload_n C 3 dX2_sumOfShares_19 rfl ?_
        refine go_I (run_VN C (c_X1_shareOfTotal_5 (by omega)) k_181 k_3 (List.mem_of_getElem? (i := 5) rfl) k_180 ks_3 dd_X1_shareOfTotal ⟨Nat.le_of_ble_eq_true rfl, Nat.le_of_ble_eq_true rfl⟩ (rcN (by omega)) rfl (Nat.le_of_ble_eq_true rfl) dX2_sumOfShares_20 ⟨Nat.le_of_ble_eq_true rfl, Nat.le_of_ble_eq_true rfl⟩) ?_
        refine v_iadd C dX2_sumOfShares_23 ?_
        refine v_top (fun x_1 ex_1 => ?_)
        refine v_istore_n (lv' := [(2, .int x_1), (3, .int (nI i)), (0, .ref (rT P t)), (1, .int 5)]) C dX2_sumOfShares_24 rfl (by decide) rfl ?_
        refine v_iinc (b := (nI (i + 1))) (lv' := [(3, .int (nI (i + 1))), (2, .int x_1), (0, .ref (rT P t)), (1, .int 5)]) C 1 dX2_sumOfShares_25 rfl (nI_1 _) (by decide) rfl ?_
        refine v_goto (tgt := 4) C dX2_sumOfShares_28 (by decide) ?_
        have e9 : shS (n + 1) 5 c (12 * t) i N sm = shS n 5 c (12 * t) (i + 1) N (sm + share (N (12 * t + i)) 5) := by rw [shS, if_neg (by omega)]
        rw [e9] at hk9
        subst ex_1
        exact ih _ _ (by omega) (by omega) hk9
  refine L_1 (c + 1) 0 0 (by omega) (by omega) ?_
  refine v_iload_n C 0 dX2_sumOfShares_31 rfl ?_
  exact v_iret C dX2_sumOfShares_32 rfl rfl
set_option maxHeartbeats 4000000 in
set_option maxRecDepth 100000 in
theorem c_X2_sumOfShares_7 {l : Launch} {P : L5} {D : va_G} {N F T : Nat → Nat → Int32} {K : Nat → Int32} {A : Nat → Nat → Int32} {w : Int64} {t : Nat} (ht : t < 2) {c : Nat} (hc : T t 1 = nI c) (h12 : c ≤ 12) : CtI l yX2_sumOfShares cX2_sumOfShares 4 .int 3 0 0 P D 97 97 False (cw P N F T K A w) (cw P N F T K A w) [.ref (rT P t), .int 7] (shS (c + 1) 7 c (12 * t) 0 N 0) := by
  refine mk_Met pl_X2 [(0, .ref (rT P t)), (1, .int 7)] rfl (Nat.le_of_ble_eq_true rfl) ?_
  intro p e s m args below meth cd C
  refine v_iconst (v := 0) C dX2_sumOfShares_0 rfl ?_
  refine v_istore_n (lv' := [(2, .int 0), (0, .ref (rT P t)), (1, .int 7)]) C dX2_sumOfShares_1 rfl (by decide) rfl ?_
  refine v_iconst (v := 0) C dX2_sumOfShares_2 rfl ?_
  refine v_istore_n (lv' := [(3, .int 0), (2, .int 0), (0, .ref (rT P t)), (1, .int 7)]) C dX2_sumOfShares_3 rfl (by decide) rfl ?_
  have L_1 : ∀ (n : Nat) (i : Nat) (sm : Int32), i ≤ c → c < i + n → V p l e (rmO 3 0 0) s m args below meth cd P D (MQ below (QcI P D 97 False (cw P N F T K A w) (shS (c + 1) 7 c (12 * t) 0 N 0)) args s 0 0 (aO P)) 4 97 False (cw P N F T K A w) 0 0 31 [(2, .int (shS n 7 c (12 * t) i N sm))] [] → V p l e (rmO 3 0 0) s m args below meth cd P D (MQ below (QcI P D 97 False (cw P N F T K A w) (shS (c + 1) 7 c (12 * t) 0 N 0)) args s 0 0 (aO P)) 4 97 False (cw P N F T K A w) 0 0 4 [(3, .int (nI i)), (2, .int sm), (0, .ref (rT P t)), (1, .int 7)] [] := by
    intro n
    induction n with
    | zero => intro i sm h1 h2; omega
    | succ n ih =>
      intro i sm h1 h2 hk9
      refine v_iload_n C 0 dX2_sumOfShares_4 rfl ?_
      refine v_aload_n C 2 dX2_sumOfShares_5 rfl ?_
      refine v_gTu C ht 1 (by decide) k_125 rfl dX2_sumOfShares_6 ?_
      refine v_icmp_ge (tgt := 31) C dX2_sumOfShares_9 (by decide) (fun h9_1 => ?_) (fun h9_1 => ?_)
      · refine v_lv [1] rfl ?_
        have hic : c ≤ i := (leC hc h12 h1).mp h9_1
        have e9 : shS (n + 1) 7 c (12 * t) i N sm = sm := by rw [shS, if_pos hic]
        rw [e9] at hk9
        exact hk9
      · have hic : i < c := Nat.not_le.mp (fun q => h9_1 ((leC hc h12 h1).mpr q))
        refine v_iload_n C 1 dX2_sumOfShares_12 rfl ?_
        refine v_aload_n C 2 dX2_sumOfShares_13 rfl ?_
        refine v_gTu C ht 2 (by decide) k_127 rfl dX2_sumOfShares_14 ?_
        refine v_iload_n C 0 dX2_sumOfShares_17 rfl ?_
        refine v_aaNk C i ht (nI_clamp (by omega)) (vp_in_nI (by omega) (by omega)) dX2_sumOfShares_18 ?_
        refine v_iload_n C 3 dX2_sumOfShares_19 rfl ?_
        refine go_I (run_VN C (c_X1_shareOfTotal_7 (by omega)) k_181 k_3 (List.mem_of_getElem? (i := 5) rfl) k_180 ks_3 dd_X1_shareOfTotal ⟨Nat.le_of_ble_eq_true rfl, Nat.le_of_ble_eq_true rfl⟩ (rcN (by omega)) rfl (Nat.le_of_ble_eq_true rfl) dX2_sumOfShares_20 ⟨Nat.le_of_ble_eq_true rfl, Nat.le_of_ble_eq_true rfl⟩) ?_
        refine v_iadd C dX2_sumOfShares_23 ?_
        refine v_top (fun x_1 ex_1 => ?_)
        refine v_istore_n (lv' := [(2, .int x_1), (3, .int (nI i)), (0, .ref (rT P t)), (1, .int 7)]) C dX2_sumOfShares_24 rfl (by decide) rfl ?_
        refine v_iinc (b := (nI (i + 1))) (lv' := [(3, .int (nI (i + 1))), (2, .int x_1), (0, .ref (rT P t)), (1, .int 7)]) C 1 dX2_sumOfShares_25 rfl (nI_1 _) (by decide) rfl ?_
        refine v_goto (tgt := 4) C dX2_sumOfShares_28 (by decide) ?_
        have e9 : shS (n + 1) 7 c (12 * t) i N sm = shS n 7 c (12 * t) (i + 1) N (sm + share (N (12 * t + i)) 7) := by rw [shS, if_neg (by omega)]
        rw [e9] at hk9
        subst ex_1
        exact ih _ _ (by omega) (by omega) hk9
  refine L_1 (c + 1) 0 0 (by omega) (by omega) ?_
  refine v_iload_n C 0 dX2_sumOfShares_31 rfl ?_
  exact v_iret C dX2_sumOfShares_32 rfl rfl
set_option maxHeartbeats 4000000 in
set_option maxRecDepth 100000 in
theorem c_X2_sumOfShares_8 {l : Launch} {P : L5} {D : va_G} {N F T : Nat → Nat → Int32} {K : Nat → Int32} {A : Nat → Nat → Int32} {w : Int64} {t : Nat} (ht : t < 2) {c : Nat} (hc : T t 1 = nI c) (h12 : c ≤ 12) : CtI l yX2_sumOfShares cX2_sumOfShares 4 .int 3 0 0 P D 97 97 False (cw P N F T K A w) (cw P N F T K A w) [.ref (rT P t), .int 8] (shS (c + 1) 8 c (12 * t) 0 N 0) := by
  refine mk_Met pl_X2 [(0, .ref (rT P t)), (1, .int 8)] rfl (Nat.le_of_ble_eq_true rfl) ?_
  intro p e s m args below meth cd C
  refine v_iconst (v := 0) C dX2_sumOfShares_0 rfl ?_
  refine v_istore_n (lv' := [(2, .int 0), (0, .ref (rT P t)), (1, .int 8)]) C dX2_sumOfShares_1 rfl (by decide) rfl ?_
  refine v_iconst (v := 0) C dX2_sumOfShares_2 rfl ?_
  refine v_istore_n (lv' := [(3, .int 0), (2, .int 0), (0, .ref (rT P t)), (1, .int 8)]) C dX2_sumOfShares_3 rfl (by decide) rfl ?_
  have L_1 : ∀ (n : Nat) (i : Nat) (sm : Int32), i ≤ c → c < i + n → V p l e (rmO 3 0 0) s m args below meth cd P D (MQ below (QcI P D 97 False (cw P N F T K A w) (shS (c + 1) 8 c (12 * t) 0 N 0)) args s 0 0 (aO P)) 4 97 False (cw P N F T K A w) 0 0 31 [(2, .int (shS n 8 c (12 * t) i N sm))] [] → V p l e (rmO 3 0 0) s m args below meth cd P D (MQ below (QcI P D 97 False (cw P N F T K A w) (shS (c + 1) 8 c (12 * t) 0 N 0)) args s 0 0 (aO P)) 4 97 False (cw P N F T K A w) 0 0 4 [(3, .int (nI i)), (2, .int sm), (0, .ref (rT P t)), (1, .int 8)] [] := by
    intro n
    induction n with
    | zero => intro i sm h1 h2; omega
    | succ n ih =>
      intro i sm h1 h2 hk9
      refine v_iload_n C 0 dX2_sumOfShares_4 rfl ?_
      refine v_aload_n C 2 dX2_sumOfShares_5 rfl ?_
      refine v_gTu C ht 1 (by decide) k_125 rfl dX2_sumOfShares_6 ?_
      refine v_icmp_ge (tgt := 31) C dX2_sumOfShares_9 (by decide) (fun h9_1 => ?_) (fun h9_1 => ?_)
      · refine v_lv [1] rfl ?_
        have hic : c ≤ i := (leC hc h12 h1).mp h9_1
        have e9 : shS (n + 1) 8 c (12 * t) i N sm = sm := by rw [shS, if_pos hic]
        rw [e9] at hk9
        exact hk9
      · have hic : i < c := Nat.not_le.mp (fun q => h9_1 ((leC hc h12 h1).mpr q))
        refine v_iload_n C 1 dX2_sumOfShares_12 rfl ?_
        refine v_aload_n C 2 dX2_sumOfShares_13 rfl ?_
        refine v_gTu C ht 2 (by decide) k_127 rfl dX2_sumOfShares_14 ?_
        refine v_iload_n C 0 dX2_sumOfShares_17 rfl ?_
        refine v_aaNk C i ht (nI_clamp (by omega)) (vp_in_nI (by omega) (by omega)) dX2_sumOfShares_18 ?_
        refine v_iload_n C 3 dX2_sumOfShares_19 rfl ?_
        refine go_I (run_VN C (c_X1_shareOfTotal_8 (by omega)) k_181 k_3 (List.mem_of_getElem? (i := 5) rfl) k_180 ks_3 dd_X1_shareOfTotal ⟨Nat.le_of_ble_eq_true rfl, Nat.le_of_ble_eq_true rfl⟩ (rcN (by omega)) rfl (Nat.le_of_ble_eq_true rfl) dX2_sumOfShares_20 ⟨Nat.le_of_ble_eq_true rfl, Nat.le_of_ble_eq_true rfl⟩) ?_
        refine v_iadd C dX2_sumOfShares_23 ?_
        refine v_top (fun x_1 ex_1 => ?_)
        refine v_istore_n (lv' := [(2, .int x_1), (3, .int (nI i)), (0, .ref (rT P t)), (1, .int 8)]) C dX2_sumOfShares_24 rfl (by decide) rfl ?_
        refine v_iinc (b := (nI (i + 1))) (lv' := [(3, .int (nI (i + 1))), (2, .int x_1), (0, .ref (rT P t)), (1, .int 8)]) C 1 dX2_sumOfShares_25 rfl (nI_1 _) (by decide) rfl ?_
        refine v_goto (tgt := 4) C dX2_sumOfShares_28 (by decide) ?_
        have e9 : shS (n + 1) 8 c (12 * t) i N sm = shS n 8 c (12 * t) (i + 1) N (sm + share (N (12 * t + i)) 8) := by rw [shS, if_neg (by omega)]
        rw [e9] at hk9
        subst ex_1
        exact ih _ _ (by omega) (by omega) hk9
  refine L_1 (c + 1) 0 0 (by omega) (by omega) ?_
  refine v_iload_n C 0 dX2_sumOfShares_31 rfl ?_
  exact v_iret C dX2_sumOfShares_32 rfl rfl
set_option maxHeartbeats 4000000 in
set_option maxRecDepth 100000 in
theorem c_X2_sumOfShares_9 {l : Launch} {P : L5} {D : va_G} {N F T : Nat → Nat → Int32} {K : Nat → Int32} {A : Nat → Nat → Int32} {w : Int64} {t : Nat} (ht : t < 2) {c : Nat} (hc : T t 1 = nI c) (h12 : c ≤ 12) : CtI l yX2_sumOfShares cX2_sumOfShares 4 .int 3 0 0 P D 97 97 False (cw P N F T K A w) (cw P N F T K A w) [.ref (rT P t), .int 9] (shS (c + 1) 9 c (12 * t) 0 N 0) := by
  refine mk_Met pl_X2 [(0, .ref (rT P t)), (1, .int 9)] rfl (Nat.le_of_ble_eq_true rfl) ?_
  intro p e s m args below meth cd C
  refine v_iconst (v := 0) C dX2_sumOfShares_0 rfl ?_
  refine v_istore_n (lv' := [(2, .int 0), (0, .ref (rT P t)), (1, .int 9)]) C dX2_sumOfShares_1 rfl (by decide) rfl ?_
  refine v_iconst (v := 0) C dX2_sumOfShares_2 rfl ?_
  refine v_istore_n (lv' := [(3, .int 0), (2, .int 0), (0, .ref (rT P t)), (1, .int 9)]) C dX2_sumOfShares_3 rfl (by decide) rfl ?_
  have L_1 : ∀ (n : Nat) (i : Nat) (sm : Int32), i ≤ c → c < i + n → V p l e (rmO 3 0 0) s m args below meth cd P D (MQ below (QcI P D 97 False (cw P N F T K A w) (shS (c + 1) 9 c (12 * t) 0 N 0)) args s 0 0 (aO P)) 4 97 False (cw P N F T K A w) 0 0 31 [(2, .int (shS n 9 c (12 * t) i N sm))] [] → V p l e (rmO 3 0 0) s m args below meth cd P D (MQ below (QcI P D 97 False (cw P N F T K A w) (shS (c + 1) 9 c (12 * t) 0 N 0)) args s 0 0 (aO P)) 4 97 False (cw P N F T K A w) 0 0 4 [(3, .int (nI i)), (2, .int sm), (0, .ref (rT P t)), (1, .int 9)] [] := by
    intro n
    induction n with
    | zero => intro i sm h1 h2; omega
    | succ n ih =>
      intro i sm h1 h2 hk9
      refine v_iload_n C 0 dX2_sumOfShares_4 rfl ?_
      refine v_aload_n C 2 dX2_sumOfShares_5 rfl ?_
      refine v_gTu C ht 1 (by decide) k_125 rfl dX2_sumOfShares_6 ?_
      refine v_icmp_ge (tgt := 31) C dX2_sumOfShares_9 (by decide) (fun h9_1 => ?_) (fun h9_1 => ?_)
      · refine v_lv [1] rfl ?_
        have hic : c ≤ i := (leC hc h12 h1).mp h9_1
        have e9 : shS (n + 1) 9 c (12 * t) i N sm = sm := by rw [shS, if_pos hic]
        rw [e9] at hk9
        exact hk9
      · have hic : i < c := Nat.not_le.mp (fun q => h9_1 ((leC hc h12 h1).mpr q))
        refine v_iload_n C 1 dX2_sumOfShares_12 rfl ?_
        refine v_aload_n C 2 dX2_sumOfShares_13 rfl ?_
        refine v_gTu C ht 2 (by decide) k_127 rfl dX2_sumOfShares_14 ?_
        refine v_iload_n C 0 dX2_sumOfShares_17 rfl ?_
        refine v_aaNk C i ht (nI_clamp (by omega)) (vp_in_nI (by omega) (by omega)) dX2_sumOfShares_18 ?_
        refine v_iload_n C 3 dX2_sumOfShares_19 rfl ?_
        refine go_I (run_VN C (c_X1_shareOfTotal_9 (by omega)) k_181 k_3 (List.mem_of_getElem? (i := 5) rfl) k_180 ks_3 dd_X1_shareOfTotal ⟨Nat.le_of_ble_eq_true rfl, Nat.le_of_ble_eq_true rfl⟩ (rcN (by omega)) rfl (Nat.le_of_ble_eq_true rfl) dX2_sumOfShares_20 ⟨Nat.le_of_ble_eq_true rfl, Nat.le_of_ble_eq_true rfl⟩) ?_
        refine v_iadd C dX2_sumOfShares_23 ?_
        refine v_top (fun x_1 ex_1 => ?_)
        refine v_istore_n (lv' := [(2, .int x_1), (3, .int (nI i)), (0, .ref (rT P t)), (1, .int 9)]) C dX2_sumOfShares_24 rfl (by decide) rfl ?_
        refine v_iinc (b := (nI (i + 1))) (lv' := [(3, .int (nI (i + 1))), (2, .int x_1), (0, .ref (rT P t)), (1, .int 9)]) C 1 dX2_sumOfShares_25 rfl (nI_1 _) (by decide) rfl ?_
        refine v_goto (tgt := 4) C dX2_sumOfShares_28 (by decide) ?_
        have e9 : shS (n + 1) 9 c (12 * t) i N sm = shS n 9 c (12 * t) (i + 1) N (sm + share (N (12 * t + i)) 9) := by rw [shS, if_neg (by omega)]
        rw [e9] at hk9
        subst ex_1
        exact ih _ _ (by omega) (by omega) hk9
  refine L_1 (c + 1) 0 0 (by omega) (by omega) ?_
  refine v_iload_n C 0 dX2_sumOfShares_31 rfl ?_
  exact v_iret C dX2_sumOfShares_32 rfl rfl
set_option maxHeartbeats 4000000 in
set_option maxRecDepth 100000 in
theorem c_X2_sumOfShares_10 {l : Launch} {P : L5} {D : va_G} {N F T : Nat → Nat → Int32} {K : Nat → Int32} {A : Nat → Nat → Int32} {w : Int64} {t : Nat} (ht : t < 2) {c : Nat} (hc : T t 1 = nI c) (h12 : c ≤ 12) : CtI l yX2_sumOfShares cX2_sumOfShares 4 .int 3 0 0 P D 97 97 False (cw P N F T K A w) (cw P N F T K A w) [.ref (rT P t), .int 10] (shS (c + 1) 10 c (12 * t) 0 N 0) := by
  refine mk_Met pl_X2 [(0, .ref (rT P t)), (1, .int 10)] rfl (Nat.le_of_ble_eq_true rfl) ?_
  intro p e s m args below meth cd C
  refine v_iconst (v := 0) C dX2_sumOfShares_0 rfl ?_
  refine v_istore_n (lv' := [(2, .int 0), (0, .ref (rT P t)), (1, .int 10)]) C dX2_sumOfShares_1 rfl (by decide) rfl ?_
  refine v_iconst (v := 0) C dX2_sumOfShares_2 rfl ?_
  refine v_istore_n (lv' := [(3, .int 0), (2, .int 0), (0, .ref (rT P t)), (1, .int 10)]) C dX2_sumOfShares_3 rfl (by decide) rfl ?_
  have L_1 : ∀ (n : Nat) (i : Nat) (sm : Int32), i ≤ c → c < i + n → V p l e (rmO 3 0 0) s m args below meth cd P D (MQ below (QcI P D 97 False (cw P N F T K A w) (shS (c + 1) 10 c (12 * t) 0 N 0)) args s 0 0 (aO P)) 4 97 False (cw P N F T K A w) 0 0 31 [(2, .int (shS n 10 c (12 * t) i N sm))] [] → V p l e (rmO 3 0 0) s m args below meth cd P D (MQ below (QcI P D 97 False (cw P N F T K A w) (shS (c + 1) 10 c (12 * t) 0 N 0)) args s 0 0 (aO P)) 4 97 False (cw P N F T K A w) 0 0 4 [(3, .int (nI i)), (2, .int sm), (0, .ref (rT P t)), (1, .int 10)] [] := by
    intro n
    induction n with
    | zero => intro i sm h1 h2; omega
    | succ n ih =>
      intro i sm h1 h2 hk9
      refine v_iload_n C 0 dX2_sumOfShares_4 rfl ?_
      refine v_aload_n C 2 dX2_sumOfShares_5 rfl ?_
      refine v_gTu C ht 1 (by decide) k_125 rfl dX2_sumOfShares_6 ?_
      refine v_icmp_ge (tgt := 31) C dX2_sumOfShares_9 (by decide) (fun h9_1 => ?_) (fun h9_1 => ?_)
      · refine v_lv [1] rfl ?_
        have hic : c ≤ i := (leC hc h12 h1).mp h9_1
        have e9 : shS (n + 1) 10 c (12 * t) i N sm = sm := by rw [shS, if_pos hic]
        rw [e9] at hk9
        exact hk9
      · have hic : i < c := Nat.not_le.mp (fun q => h9_1 ((leC hc h12 h1).mpr q))
        refine v_iload_n C 1 dX2_sumOfShares_12 rfl ?_
        refine v_aload_n C 2 dX2_sumOfShares_13 rfl ?_
        refine v_gTu C ht 2 (by decide) k_127 rfl dX2_sumOfShares_14 ?_
        refine v_iload_n C 0 dX2_sumOfShares_17 rfl ?_
        refine v_aaNk C i ht (nI_clamp (by omega)) (vp_in_nI (by omega) (by omega)) dX2_sumOfShares_18 ?_
        refine v_iload_n C 3 dX2_sumOfShares_19 rfl ?_
        refine go_I (run_VN C (c_X1_shareOfTotal_10 (by omega)) k_181 k_3 (List.mem_of_getElem? (i := 5) rfl) k_180 ks_3 dd_X1_shareOfTotal ⟨Nat.le_of_ble_eq_true rfl, Nat.le_of_ble_eq_true rfl⟩ (rcN (by omega)) rfl (Nat.le_of_ble_eq_true rfl) dX2_sumOfShares_20 ⟨Nat.le_of_ble_eq_true rfl, Nat.le_of_ble_eq_true rfl⟩) ?_
        refine v_iadd C dX2_sumOfShares_23 ?_
        refine v_top (fun x_1 ex_1 => ?_)
        refine v_istore_n (lv' := [(2, .int x_1), (3, .int (nI i)), (0, .ref (rT P t)), (1, .int 10)]) C dX2_sumOfShares_24 rfl (by decide) rfl ?_
        refine v_iinc (b := (nI (i + 1))) (lv' := [(3, .int (nI (i + 1))), (2, .int x_1), (0, .ref (rT P t)), (1, .int 10)]) C 1 dX2_sumOfShares_25 rfl (nI_1 _) (by decide) rfl ?_
        refine v_goto (tgt := 4) C dX2_sumOfShares_28 (by decide) ?_
        have e9 : shS (n + 1) 10 c (12 * t) i N sm = shS n 10 c (12 * t) (i + 1) N (sm + share (N (12 * t + i)) 10) := by rw [shS, if_neg (by omega)]
        rw [e9] at hk9
        subst ex_1
        exact ih _ _ (by omega) (by omega) hk9
  refine L_1 (c + 1) 0 0 (by omega) (by omega) ?_
  refine v_iload_n C 0 dX2_sumOfShares_31 rfl ?_
  exact v_iret C dX2_sumOfShares_32 rfl rfl
set_option maxHeartbeats 4000000 in
set_option maxRecDepth 100000 in
theorem c_X2_total_0 {l : Launch} {P : L5} {D : va_G} {N F T : Nat → Nat → Int32} {K : Nat → Int32} {A : Nat → Nat → Int32} {w : Int64} {t : Nat} (ht : t < 2) {c : Nat} (hc : T t 1 = nI c) (h12 : c ≤ 12) : CtI l yX2_total cX2_total 2 .int 4 0 0 P D 97 97 False (cw P N F T K A w) (cw P N F T K A w) [.ref (rT P t), .int 0] (totN N F T t c 0) := by
  refine mk_Met pl_X2 [(0, .ref (rT P t)), (1, .int 0)] rfl (Nat.le_of_ble_eq_true rfl) ?_
  intro p e s m args below meth cd C
  refine v_iload_n C 1 dX2_total_0 rfl ?_
  refine v_lookup (tgt := 36) C dX2_total_1 (by decide) rfl (by decide) ?_
  refine v_aload_n C 0 dX2_total_36 rfl ?_
  refine v_gTu C ht 0 (by decide) k_124 rfl dX2_total_37 ?_
  exact v_iret C dX2_total_40 rfl rfl
set_option maxHeartbeats 4000000 in
set_option maxRecDepth 100000 in
theorem c_X2_total_1 {l : Launch} {P : L5} {D : va_G} {N F T : Nat → Nat → Int32} {K : Nat → Int32} {A : Nat → Nat → Int32} {w : Int64} {t : Nat} (ht : t < 2) {c : Nat} (hc : T t 1 = nI c) (h12 : c ≤ 12) : CtI l yX2_total cX2_total 2 .int 4 0 0 P D 97 97 False (cw P N F T K A w) (cw P N F T K A w) [.ref (rT P t), .int 1] (totN N F T t c 1) := by
  refine mk_Met pl_X2 [(0, .ref (rT P t)), (1, .int 1)] rfl (Nat.le_of_ble_eq_true rfl) ?_
  intro p e s m args below meth cd C
  refine v_iload_n C 1 dX2_total_0 rfl ?_
  refine v_lookup (tgt := 41) C dX2_total_1 (by decide) rfl (by decide) ?_
  refine v_aload_n C 0 dX2_total_41 rfl ?_
  refine v_gTu C ht 1 (by decide) k_125 rfl dX2_total_42 ?_
  exact v_iret C dX2_total_45 rfl rfl
set_option maxHeartbeats 4000000 in
set_option maxRecDepth 100000 in
theorem c_X2_total_2 {l : Launch} {P : L5} {D : va_G} {N F T : Nat → Nat → Int32} {K : Nat → Int32} {A : Nat → Nat → Int32} {w : Int64} {t : Nat} (ht : t < 2) {c : Nat} (hc : T t 1 = nI c) (h12 : c ≤ 12) : CtI l yX2_total cX2_total 2 .int 4 0 0 P D 97 97 False (cw P N F T K A w) (cw P N F T K A w) [.ref (rT P t), .int 2] (totN N F T t c 2) := by
  refine mk_Met pl_X2 [(0, .ref (rT P t)), (1, .int 2)] rfl (Nat.le_of_ble_eq_true rfl) ?_
  intro p e s m args below meth cd C
  refine v_iload_n C 1 dX2_total_0 rfl ?_
  refine v_lookup (tgt := 51) C dX2_total_1 (by decide) rfl (by decide) ?_
  refine v_aload_n C 0 dX2_total_51 rfl ?_
  refine v_iload_n C 1 dX2_total_52 rfl ?_
  refine go_I (run_V C (c_X2_sumOfShares_2 ht hc h12) k_177 k_2 k_174 k_176 ks_2 dd_X2_sumOfShares ⟨Nat.le_of_ble_eq_true rfl, Nat.le_of_ble_eq_true rfl⟩ (rcT ht) rfl (Nat.le_of_ble_eq_true rfl) dX2_total_53 ⟨Nat.le_of_ble_eq_true rfl, Nat.le_of_ble_eq_true rfl⟩) ?_
  exact v_iret C dX2_total_56 rfl rfl
set_option maxHeartbeats 4000000 in
set_option maxRecDepth 100000 in
theorem c_X2_total_3 {l : Launch} {P : L5} {D : va_G} {N F T : Nat → Nat → Int32} {K : Nat → Int32} {A : Nat → Nat → Int32} {w : Int64} {t : Nat} (ht : t < 2) {c : Nat} (hc : T t 1 = nI c) (h12 : c ≤ 12) : CtI l yX2_total cX2_total 2 .int 4 0 0 P D 97 97 False (cw P N F T K A w) (cw P N F T K A w) [.ref (rT P t), .int 3] (totN N F T t c 3) := by
  refine mk_Met pl_X2 [(0, .ref (rT P t)), (1, .int 3)] rfl (Nat.le_of_ble_eq_true rfl) ?_
  intro p e s m args below meth cd C
  refine v_iload_n C 1 dX2_total_0 rfl ?_
  refine v_lookup (tgt := 51) C dX2_total_1 (by decide) rfl (by decide) ?_
  refine v_aload_n C 0 dX2_total_51 rfl ?_
  refine v_iload_n C 1 dX2_total_52 rfl ?_
  refine go_I (run_V C (c_X2_sumOfShares_3 ht hc h12) k_177 k_2 k_174 k_176 ks_2 dd_X2_sumOfShares ⟨Nat.le_of_ble_eq_true rfl, Nat.le_of_ble_eq_true rfl⟩ (rcT ht) rfl (Nat.le_of_ble_eq_true rfl) dX2_total_53 ⟨Nat.le_of_ble_eq_true rfl, Nat.le_of_ble_eq_true rfl⟩) ?_
  exact v_iret C dX2_total_56 rfl rfl
set_option maxHeartbeats 4000000 in
set_option maxRecDepth 100000 in
theorem c_X2_total_4 {l : Launch} {P : L5} {D : va_G} {N F T : Nat → Nat → Int32} {K : Nat → Int32} {A : Nat → Nat → Int32} {w : Int64} {t : Nat} (ht : t < 2) {c : Nat} (hc : T t 1 = nI c) (h12 : c ≤ 12) : CtI l yX2_total cX2_total 2 .int 4 0 0 P D 97 97 False (cw P N F T K A w) (cw P N F T K A w) [.ref (rT P t), .int 4] (totN N F T t c 4) := by
  refine mk_Met pl_X2 [(0, .ref (rT P t)), (1, .int 4)] rfl (Nat.le_of_ble_eq_true rfl) ?_
  intro p e s m args below meth cd C
  refine v_iload_n C 1 dX2_total_0 rfl ?_
  refine v_lookup (tgt := 51) C dX2_total_1 (by decide) rfl (by decide) ?_
  refine v_aload_n C 0 dX2_total_51 rfl ?_
  refine v_iload_n C 1 dX2_total_52 rfl ?_
  refine go_I (run_V C (c_X2_sumOfShares_4 ht hc h12) k_177 k_2 k_174 k_176 ks_2 dd_X2_sumOfShares ⟨Nat.le_of_ble_eq_true rfl, Nat.le_of_ble_eq_true rfl⟩ (rcT ht) rfl (Nat.le_of_ble_eq_true rfl) dX2_total_53 ⟨Nat.le_of_ble_eq_true rfl, Nat.le_of_ble_eq_true rfl⟩) ?_
  exact v_iret C dX2_total_56 rfl rfl
set_option maxHeartbeats 4000000 in
set_option maxRecDepth 100000 in
theorem c_X2_total_5 {l : Launch} {P : L5} {D : va_G} {N F T : Nat → Nat → Int32} {K : Nat → Int32} {A : Nat → Nat → Int32} {w : Int64} {t : Nat} (ht : t < 2) {c : Nat} (hc : T t 1 = nI c) (h12 : c ≤ 12) : CtI l yX2_total cX2_total 2 .int 4 0 0 P D 97 97 False (cw P N F T K A w) (cw P N F T K A w) [.ref (rT P t), .int 5] (totN N F T t c 5) := by
  refine mk_Met pl_X2 [(0, .ref (rT P t)), (1, .int 5)] rfl (Nat.le_of_ble_eq_true rfl) ?_
  intro p e s m args below meth cd C
  refine v_iload_n C 1 dX2_total_0 rfl ?_
  refine v_lookup (tgt := 51) C dX2_total_1 (by decide) rfl (by decide) ?_
  refine v_aload_n C 0 dX2_total_51 rfl ?_
  refine v_iload_n C 1 dX2_total_52 rfl ?_
  refine go_I (run_V C (c_X2_sumOfShares_5 ht hc h12) k_177 k_2 k_174 k_176 ks_2 dd_X2_sumOfShares ⟨Nat.le_of_ble_eq_true rfl, Nat.le_of_ble_eq_true rfl⟩ (rcT ht) rfl (Nat.le_of_ble_eq_true rfl) dX2_total_53 ⟨Nat.le_of_ble_eq_true rfl, Nat.le_of_ble_eq_true rfl⟩) ?_
  exact v_iret C dX2_total_56 rfl rfl
set_option maxHeartbeats 4000000 in
set_option maxRecDepth 100000 in
theorem c_X2_total_6 {l : Launch} {P : L5} {D : va_G} {N F T : Nat → Nat → Int32} {K : Nat → Int32} {A : Nat → Nat → Int32} {w : Int64} {t : Nat} (ht : t < 2) {c : Nat} (hc : T t 1 = nI c) (h12 : c ≤ 12) : CtI l yX2_total cX2_total 2 .int 4 0 0 P D 97 97 False (cw P N F T K A w) (cw P N F T K A w) [.ref (rT P t), .int 6] (totN N F T t c 6) := by
  refine mk_Met pl_X2 [(0, .ref (rT P t)), (1, .int 6)] rfl (Nat.le_of_ble_eq_true rfl) ?_
  intro p e s m args below meth cd C
  refine v_iload_n C 1 dX2_total_0 rfl ?_
  refine v_lookup (tgt := 46) C dX2_total_1 (by decide) rfl (by decide) ?_
  refine v_aload_n C 0 dX2_total_46 rfl ?_
  refine go_I (run_V C (c_X2_warehouseBags ht) k_173 k_2 k_170 k_172 ks_1 dd_X2_warehouseBags ⟨Nat.le_of_ble_eq_true rfl, Nat.le_of_ble_eq_true rfl⟩ (rcT ht) rfl (Nat.le_of_ble_eq_true rfl) dX2_total_47 ⟨Nat.le_of_ble_eq_true rfl, Nat.le_of_ble_eq_true rfl⟩) ?_
  exact v_iret C dX2_total_50 rfl rfl
set_option maxHeartbeats 4000000 in
set_option maxRecDepth 100000 in
theorem c_X2_total_7 {l : Launch} {P : L5} {D : va_G} {N F T : Nat → Nat → Int32} {K : Nat → Int32} {A : Nat → Nat → Int32} {w : Int64} {t : Nat} (ht : t < 2) {c : Nat} (hc : T t 1 = nI c) (h12 : c ≤ 12) : CtI l yX2_total cX2_total 2 .int 4 0 0 P D 97 97 False (cw P N F T K A w) (cw P N F T K A w) [.ref (rT P t), .int 7] (totN N F T t c 7) := by
  refine mk_Met pl_X2 [(0, .ref (rT P t)), (1, .int 7)] rfl (Nat.le_of_ble_eq_true rfl) ?_
  intro p e s m args below meth cd C
  refine v_iload_n C 1 dX2_total_0 rfl ?_
  refine v_lookup (tgt := 51) C dX2_total_1 (by decide) rfl (by decide) ?_
  refine v_aload_n C 0 dX2_total_51 rfl ?_
  refine v_iload_n C 1 dX2_total_52 rfl ?_
  refine go_I (run_V C (c_X2_sumOfShares_7 ht hc h12) k_177 k_2 k_174 k_176 ks_2 dd_X2_sumOfShares ⟨Nat.le_of_ble_eq_true rfl, Nat.le_of_ble_eq_true rfl⟩ (rcT ht) rfl (Nat.le_of_ble_eq_true rfl) dX2_total_53 ⟨Nat.le_of_ble_eq_true rfl, Nat.le_of_ble_eq_true rfl⟩) ?_
  exact v_iret C dX2_total_56 rfl rfl
set_option maxHeartbeats 4000000 in
set_option maxRecDepth 100000 in
theorem c_X2_total_8 {l : Launch} {P : L5} {D : va_G} {N F T : Nat → Nat → Int32} {K : Nat → Int32} {A : Nat → Nat → Int32} {w : Int64} {t : Nat} (ht : t < 2) {c : Nat} (hc : T t 1 = nI c) (h12 : c ≤ 12) : CtI l yX2_total cX2_total 2 .int 4 0 0 P D 97 97 False (cw P N F T K A w) (cw P N F T K A w) [.ref (rT P t), .int 8] (totN N F T t c 8) := by
  refine mk_Met pl_X2 [(0, .ref (rT P t)), (1, .int 8)] rfl (Nat.le_of_ble_eq_true rfl) ?_
  intro p e s m args below meth cd C
  refine v_iload_n C 1 dX2_total_0 rfl ?_
  refine v_lookup (tgt := 51) C dX2_total_1 (by decide) rfl (by decide) ?_
  refine v_aload_n C 0 dX2_total_51 rfl ?_
  refine v_iload_n C 1 dX2_total_52 rfl ?_
  refine go_I (run_V C (c_X2_sumOfShares_8 ht hc h12) k_177 k_2 k_174 k_176 ks_2 dd_X2_sumOfShares ⟨Nat.le_of_ble_eq_true rfl, Nat.le_of_ble_eq_true rfl⟩ (rcT ht) rfl (Nat.le_of_ble_eq_true rfl) dX2_total_53 ⟨Nat.le_of_ble_eq_true rfl, Nat.le_of_ble_eq_true rfl⟩) ?_
  exact v_iret C dX2_total_56 rfl rfl
set_option maxHeartbeats 4000000 in
set_option maxRecDepth 100000 in
theorem c_X2_total_9 {l : Launch} {P : L5} {D : va_G} {N F T : Nat → Nat → Int32} {K : Nat → Int32} {A : Nat → Nat → Int32} {w : Int64} {t : Nat} (ht : t < 2) {c : Nat} (hc : T t 1 = nI c) (h12 : c ≤ 12) : CtI l yX2_total cX2_total 2 .int 4 0 0 P D 97 97 False (cw P N F T K A w) (cw P N F T K A w) [.ref (rT P t), .int 9] (totN N F T t c 9) := by
  refine mk_Met pl_X2 [(0, .ref (rT P t)), (1, .int 9)] rfl (Nat.le_of_ble_eq_true rfl) ?_
  intro p e s m args below meth cd C
  refine v_iload_n C 1 dX2_total_0 rfl ?_
  refine v_lookup (tgt := 51) C dX2_total_1 (by decide) rfl (by decide) ?_
  refine v_aload_n C 0 dX2_total_51 rfl ?_
  refine v_iload_n C 1 dX2_total_52 rfl ?_
  refine go_I (run_V C (c_X2_sumOfShares_9 ht hc h12) k_177 k_2 k_174 k_176 ks_2 dd_X2_sumOfShares ⟨Nat.le_of_ble_eq_true rfl, Nat.le_of_ble_eq_true rfl⟩ (rcT ht) rfl (Nat.le_of_ble_eq_true rfl) dX2_total_53 ⟨Nat.le_of_ble_eq_true rfl, Nat.le_of_ble_eq_true rfl⟩) ?_
  exact v_iret C dX2_total_56 rfl rfl
set_option maxHeartbeats 4000000 in
set_option maxRecDepth 100000 in
theorem c_X2_total_10 {l : Launch} {P : L5} {D : va_G} {N F T : Nat → Nat → Int32} {K : Nat → Int32} {A : Nat → Nat → Int32} {w : Int64} {t : Nat} (ht : t < 2) {c : Nat} (hc : T t 1 = nI c) (h12 : c ≤ 12) : CtI l yX2_total cX2_total 2 .int 4 0 0 P D 97 97 False (cw P N F T K A w) (cw P N F T K A w) [.ref (rT P t), .int 10] (totN N F T t c 10) := by
  refine mk_Met pl_X2 [(0, .ref (rT P t)), (1, .int 10)] rfl (Nat.le_of_ble_eq_true rfl) ?_
  intro p e s m args below meth cd C
  refine v_iload_n C 1 dX2_total_0 rfl ?_
  refine v_lookup (tgt := 51) C dX2_total_1 (by decide) rfl (by decide) ?_
  refine v_aload_n C 0 dX2_total_51 rfl ?_
  refine v_iload_n C 1 dX2_total_52 rfl ?_
  refine go_I (run_V C (c_X2_sumOfShares_10 ht hc h12) k_177 k_2 k_174 k_176 ks_2 dd_X2_sumOfShares ⟨Nat.le_of_ble_eq_true rfl, Nat.le_of_ble_eq_true rfl⟩ (rcT ht) rfl (Nat.le_of_ble_eq_true rfl) dX2_total_53 ⟨Nat.le_of_ble_eq_true rfl, Nat.le_of_ble_eq_true rfl⟩) ?_
  exact v_iret C dX2_total_56 rfl rfl
set_option maxHeartbeats 4000000 in
set_option maxRecDepth 100000 in
theorem c_X2_workersFor {l : Launch} {P : L5} {D : va_G} {N F T : Nat → Nat → Int32} {K : Nat → Int32} {A : Nat → Nat → Int32} {w : Int64} {t : Nat} (ht : t < 2) {c : Nat} (hc : T t 1 = nI c) (h12 : c ≤ 12) {q : Int32} : CtI l yX2_workersFor cX2_workersFor 4 .int 1 0 0 P D 97 97 False (cw P N F T K A w) (cw P N F T K A w) [.ref (rT P t), .int q] (wkF (c + 1) q c (12 * t) 0 N 0) := by
  refine mk_Met pl_X2 [(0, .ref (rT P t)), (1, .int q)] rfl (Nat.le_of_ble_eq_true rfl) ?_
  intro p e s m args below meth cd C
  refine v_iconst (v := 0) C dX2_workersFor_0 rfl ?_
  refine v_istore_n (lv' := [(2, .int 0), (0, .ref (rT P t)), (1, .int q)]) C dX2_workersFor_1 rfl (by decide) rfl ?_
  refine v_iconst (v := 0) C dX2_workersFor_2 rfl ?_
  refine v_istore_n (lv' := [(3, .int 0), (2, .int 0), (0, .ref (rT P t)), (1, .int q)]) C dX2_workersFor_3 rfl (by decide) rfl ?_
  have L_1 : ∀ (n : Nat) (i : Nat) (sm : Int32), i ≤ c → c < i + n → V p l e (rmO 1 0 0) s m args below meth cd P D (MQ below (QcI P D 97 False (cw P N F T K A w) (wkF (c + 1) q c (12 * t) 0 N 0)) args s 0 0 (aO P)) 4 97 False (cw P N F T K A w) 0 0 34 [(2, .int (wkF n q c (12 * t) i N sm))] [] → V p l e (rmO 1 0 0) s m args below meth cd P D (MQ below (QcI P D 97 False (cw P N F T K A w) (wkF (c + 1) q c (12 * t) 0 N 0)) args s 0 0 (aO P)) 4 97 False (cw P N F T K A w) 0 0 4 [(3, .int (nI i)), (2, .int sm), (0, .ref (rT P t)), (1, .int q)] [] := by
    intro n
    induction n with
    | zero => intro i sm h1 h2; omega
    | succ n ih =>
      intro i sm h1 h2 hk9
      refine v_iload_n C 0 dX2_workersFor_4 rfl ?_
      refine v_aload_n C 2 dX2_workersFor_5 rfl ?_
      refine v_gTu C ht 1 (by decide) k_125 rfl dX2_workersFor_6 ?_
      refine v_icmp_ge (tgt := 34) C dX2_workersFor_9 (by decide) (fun h9_1 => ?_) (fun h9_1 => ?_)
      · refine v_lv [1] rfl ?_
        have hic : c ≤ i := (leC hc h12 h1).mp h9_1
        have e9 : wkF (n + 1) q c (12 * t) i N sm = sm := by rw [wkF, if_pos hic]
        rw [e9] at hk9
        exact hk9
      · have hic : i < c := Nat.not_le.mp (fun q => h9_1 ((leC hc h12 h1).mpr q))
        refine v_aload_n C 2 dX2_workersFor_12 rfl ?_
        refine v_gTu C ht 2 (by decide) k_127 rfl dX2_workersFor_13 ?_
        refine v_iload_n C 0 dX2_workersFor_16 rfl ?_
        refine v_aaNk C i ht (nI_clamp (by omega)) (vp_in_nI (by omega) (by omega)) dX2_workersFor_17 ?_
        refine v_gNuN C (by omega) 2 (by decide) (List.mem_of_getElem? (i := 1) rfl) rfl dX2_workersFor_18 ?_
        refine v_iload_n C 3 dX2_workersFor_21 rfl ?_
        refine v_icmp_ne (tgt := 28) C dX2_workersFor_22 (by decide) (fun h22_1 => ?_) (fun h22_1 => ?_)
        · refine v_iinc (b := (nI (i + 1))) (lv' := [(3, .int (nI (i + 1))), (2, .int sm), (0, .ref (rT P t)), (1, .int q)]) C 0 dX2_workersFor_28 rfl (nI_1 _) (by decide) rfl ?_
          refine v_goto (tgt := 4) C dX2_workersFor_31 (by decide) ?_
          have e9 : wkF (n + 1) q c (12 * t) i N sm = wkF n q c (12 * t) (i + 1) N sm := by rw [wkF, if_neg (by omega), if_neg (by exact h22_1)]
          rw [e9] at hk9
          exact ih _ _ (by omega) (by omega) hk9
        · obtain ⟨x_1, ex_1⟩ : ∃ y : Int32, y = sm + 1 := ⟨_, rfl⟩
          refine v_iinc (b := x_1) (lv' := [(2, .int x_1), (3, .int (nI i)), (0, .ref (rT P t)), (1, .int q)]) C 1 dX2_workersFor_25 rfl (by rw [ex_1]; rfl) (by decide) rfl ?_
          refine v_iinc (b := (nI (i + 1))) (lv' := [(3, .int (nI (i + 1))), (2, .int x_1), (0, .ref (rT P t)), (1, .int q)]) C 1 dX2_workersFor_28 rfl (nI_1 _) (by decide) rfl ?_
          refine v_goto (tgt := 4) C dX2_workersFor_31 (by decide) ?_
          have e9 : wkF (n + 1) q c (12 * t) i N sm = wkF n q c (12 * t) (i + 1) N (sm + 1) := by rw [wkF, if_neg (by omega), if_pos (by exact h22_1)]
          rw [e9] at hk9
          subst ex_1
          exact ih _ _ (by omega) (by omega) hk9
  refine L_1 (c + 1) 0 0 (by omega) (by omega) ?_
  refine v_iload_n C 0 dX2_workersFor_34 rfl ?_
  exact v_iret C dX2_workersFor_35 rfl rfl
set_option maxHeartbeats 4000000 in
set_option maxRecDepth 100000 in
theorem c_X2_foggerNumber_0 {l : Launch} {P : L5} {D : va_G} {N F T : Nat → Nat → Int32} {K : Nat → Int32} {A : Nat → Nat → Int32} {w : Int64} {t : Nat} (ht : t < 2) {c : Nat} (hc : T t 1 = nI c) (h12 : c ≤ 12) {q : Int32} (hq : vp_in q 4) : CtI l yX2_foggerNumber cX2_foggerNumber 3 .int 2 0 0 P D 97 97 False (cw P N F T K A w) (cw P N F T K A w) [.ref (rT P t), .int q, .int 0] (fogN N F t c q 0) := by
  refine mk_Met pl_X2 [(0, .ref (rT P t)), (1, .int q), (2, .int 0)] rfl (Nat.le_of_ble_eq_true rfl) ?_
  intro p e s m args below meth cd C
  have h4 := pk_lt4 hq
  refine v_iload_n C 2 dX2_foggerNumber_0 rfl ?_
  refine v_tableIn (tgt := 36) C dX2_foggerNumber_1 (by decide) (by decide) rfl (by decide) ?_
  refine v_aload_n C 0 dX2_foggerNumber_36 rfl ?_
  refine v_gTu C ht 3 (by decide) k_129 rfl dX2_foggerNumber_37 ?_
  refine v_iload_n C 1 dX2_foggerNumber_40 rfl ?_
  refine v_aaFk C q.toNatClampNeg ht rfl hq dX2_foggerNumber_41 ?_
  refine v_gFuN C (by omega) 0 (by decide) (List.mem_of_getElem? (i := 14) rfl) rfl dX2_foggerNumber_42 ?_
  exact v_iret C dX2_foggerNumber_45 rfl rfl
set_option maxHeartbeats 4000000 in
set_option maxRecDepth 100000 in
theorem c_X2_foggerNumber_1 {l : Launch} {P : L5} {D : va_G} {N F T : Nat → Nat → Int32} {K : Nat → Int32} {A : Nat → Nat → Int32} {w : Int64} {t : Nat} (ht : t < 2) {c : Nat} (hc : T t 1 = nI c) (h12 : c ≤ 12) {q : Int32} (hq : vp_in q 4) : CtI l yX2_foggerNumber cX2_foggerNumber 3 .int 2 0 0 P D 97 97 False (cw P N F T K A w) (cw P N F T K A w) [.ref (rT P t), .int q, .int 1] (fogN N F t c q 1) := by
  refine mk_Met pl_X2 [(0, .ref (rT P t)), (1, .int q), (2, .int 1)] rfl (Nat.le_of_ble_eq_true rfl) ?_
  intro p e s m args below meth cd C
  have h4 := pk_lt4 hq
  refine v_iload_n C 2 dX2_foggerNumber_0 rfl ?_
  refine v_tableIn (tgt := 46) C dX2_foggerNumber_1 (by decide) (by decide) rfl (by decide) ?_
  refine v_aload_n C 0 dX2_foggerNumber_46 rfl ?_
  refine v_gTu C ht 3 (by decide) k_129 rfl dX2_foggerNumber_47 ?_
  refine v_iload_n C 1 dX2_foggerNumber_50 rfl ?_
  refine v_aaFk C q.toNatClampNeg ht rfl hq dX2_foggerNumber_51 ?_
  refine v_gFuN C (by omega) 1 (by decide) (List.mem_of_getElem? (i := 15) rfl) rfl dX2_foggerNumber_52 ?_
  exact v_iret C dX2_foggerNumber_55 rfl rfl
set_option maxHeartbeats 4000000 in
set_option maxRecDepth 100000 in
theorem c_X2_foggerNumber_2 {l : Launch} {P : L5} {D : va_G} {N F T : Nat → Nat → Int32} {K : Nat → Int32} {A : Nat → Nat → Int32} {w : Int64} {t : Nat} (ht : t < 2) {c : Nat} (hc : T t 1 = nI c) (h12 : c ≤ 12) {q : Int32} (hq : vp_in q 4) : CtI l yX2_foggerNumber cX2_foggerNumber 3 .int 2 0 0 P D 97 97 False (cw P N F T K A w) (cw P N F T K A w) [.ref (rT P t), .int q, .int 2] (fogN N F t c q 2) := by
  refine mk_Met pl_X2 [(0, .ref (rT P t)), (1, .int q), (2, .int 2)] rfl (Nat.le_of_ble_eq_true rfl) ?_
  intro p e s m args below meth cd C
  have h4 := pk_lt4 hq
  refine v_iload_n C 2 dX2_foggerNumber_0 rfl ?_
  refine v_tableIn (tgt := 56) C dX2_foggerNumber_1 (by decide) (by decide) rfl (by decide) ?_
  refine v_aload_n C 0 dX2_foggerNumber_56 rfl ?_
  refine v_iload_n C 1 dX2_foggerNumber_57 rfl ?_
  refine go_I (run_V C (c_X2_workersFor ht hc h12) k_201 k_2 k_198 k_200 ks_7 dd_X2_workersFor ⟨Nat.le_of_ble_eq_true rfl, Nat.le_of_ble_eq_true rfl⟩ (rcT ht) rfl (Nat.le_of_ble_eq_true rfl) dX2_foggerNumber_58 ⟨Nat.le_of_ble_eq_true rfl, Nat.le_of_ble_eq_true rfl⟩) ?_
  exact v_iret C dX2_foggerNumber_61 rfl rfl
set_option maxHeartbeats 4000000 in
set_option maxRecDepth 100000 in
theorem c_X2_foggerNumber_3 {l : Launch} {P : L5} {D : va_G} {N F T : Nat → Nat → Int32} {K : Nat → Int32} {A : Nat → Nat → Int32} {w : Int64} {t : Nat} (ht : t < 2) {c : Nat} (hc : T t 1 = nI c) (h12 : c ≤ 12) {q : Int32} (hq : vp_in q 4) : CtI l yX2_foggerNumber cX2_foggerNumber 3 .int 2 0 0 P D 97 97 False (cw P N F T K A w) (cw P N F T K A w) [.ref (rT P t), .int q, .int 3] (fogN N F t c q 3) := by
  refine mk_Met pl_X2 [(0, .ref (rT P t)), (1, .int q), (2, .int 3)] rfl (Nat.le_of_ble_eq_true rfl) ?_
  intro p e s m args below meth cd C
  have h4 := pk_lt4 hq
  refine v_iload_n C 2 dX2_foggerNumber_0 rfl ?_
  refine v_tableIn (tgt := 62) C dX2_foggerNumber_1 (by decide) (by decide) rfl (by decide) ?_
  refine v_aload_n C 0 dX2_foggerNumber_62 rfl ?_
  refine v_gTu C ht 3 (by decide) k_129 rfl dX2_foggerNumber_63 ?_
  refine v_iload_n C 1 dX2_foggerNumber_66 rfl ?_
  refine v_aaFk C q.toNatClampNeg ht rfl hq dX2_foggerNumber_67 ?_
  refine v_gFuN C (by omega) 2 (by decide) (List.mem_of_getElem? (i := 16) rfl) rfl dX2_foggerNumber_68 ?_
  exact v_iret C dX2_foggerNumber_71 rfl rfl
set_option maxHeartbeats 4000000 in
set_option maxRecDepth 100000 in
theorem c_X2_foggerNumber_4 {l : Launch} {P : L5} {D : va_G} {N F T : Nat → Nat → Int32} {K : Nat → Int32} {A : Nat → Nat → Int32} {w : Int64} {t : Nat} (ht : t < 2) {c : Nat} (hc : T t 1 = nI c) (h12 : c ≤ 12) {q : Int32} (hq : vp_in q 4) : CtI l yX2_foggerNumber cX2_foggerNumber 3 .int 2 0 0 P D 97 97 False (cw P N F T K A w) (cw P N F T K A w) [.ref (rT P t), .int q, .int 4] (fogN N F t c q 4) := by
  refine mk_Met pl_X2 [(0, .ref (rT P t)), (1, .int q), (2, .int 4)] rfl (Nat.le_of_ble_eq_true rfl) ?_
  intro p e s m args below meth cd C
  have h4 := pk_lt4 hq
  refine v_iload_n C 2 dX2_foggerNumber_0 rfl ?_
  refine v_tableIn (tgt := 72) C dX2_foggerNumber_1 (by decide) (by decide) rfl (by decide) ?_
  refine v_aload_n C 0 dX2_foggerNumber_72 rfl ?_
  refine v_gTu C ht 3 (by decide) k_129 rfl dX2_foggerNumber_73 ?_
  refine v_iload_n C 1 dX2_foggerNumber_76 rfl ?_
  refine v_aaFk C q.toNatClampNeg ht rfl hq dX2_foggerNumber_77 ?_
  refine v_gFuN C (by omega) 3 (by decide) (List.mem_of_getElem? (i := 17) rfl) rfl dX2_foggerNumber_78 ?_
  exact v_iret C dX2_foggerNumber_81 rfl rfl
set_option maxHeartbeats 4000000 in
set_option maxRecDepth 100000 in
theorem c_X2_foggerNumber_5 {l : Launch} {P : L5} {D : va_G} {N F T : Nat → Nat → Int32} {K : Nat → Int32} {A : Nat → Nat → Int32} {w : Int64} {t : Nat} (ht : t < 2) {c : Nat} (hc : T t 1 = nI c) (h12 : c ≤ 12) {q : Int32} (hq : vp_in q 4) : CtI l yX2_foggerNumber cX2_foggerNumber 3 .int 2 0 0 P D 97 97 False (cw P N F T K A w) (cw P N F T K A w) [.ref (rT P t), .int q, .int 5] (fogN N F t c q 5) := by
  refine mk_Met pl_X2 [(0, .ref (rT P t)), (1, .int q), (2, .int 5)] rfl (Nat.le_of_ble_eq_true rfl) ?_
  intro p e s m args below meth cd C
  have h4 := pk_lt4 hq
  refine v_iload_n C 2 dX2_foggerNumber_0 rfl ?_
  refine v_tableOut (tgt := 82) C dX2_foggerNumber_1 (by decide) (by decide) ?_
  refine v_aload_n C 0 dX2_foggerNumber_82 rfl ?_
  refine v_gTu C ht 3 (by decide) k_129 rfl dX2_foggerNumber_83 ?_
  refine v_iload_n C 1 dX2_foggerNumber_86 rfl ?_
  refine v_aaFk C q.toNatClampNeg ht rfl hq dX2_foggerNumber_87 ?_
  refine v_gFuN C (by omega) 4 (by decide) (List.mem_of_getElem? (i := 18) rfl) rfl dX2_foggerNumber_88 ?_
  refine v_aload_n C 0 dX2_foggerNumber_91 rfl ?_
  refine v_gTu C ht 3 (by decide) k_129 rfl dX2_foggerNumber_92 ?_
  refine v_iload_n C 1 dX2_foggerNumber_95 rfl ?_
  refine v_aaFk C q.toNatClampNeg ht rfl hq dX2_foggerNumber_96 ?_
  refine v_gFuN C (by omega) 3 (by decide) (List.mem_of_getElem? (i := 17) rfl) rfl dX2_foggerNumber_97 ?_
  refine v_isub C dX2_foggerNumber_100 ?_
  exact v_iret C dX2_foggerNumber_101 rfl rfl
theorem lt2 {p : Nat → Prop} (h : p 0 ∧ p 1) : ∀ k, k < 2 → p k := by
  intro k hk
  rcases (show k = 0 ∨ k = 1 by omega) with rfl | rfl
  · exact h.1
  · exact h.2
set_option maxHeartbeats 4000000 in
set_option maxRecDepth 100000 in
theorem c_X2_copyFrom {l : Launch} {P : L5} {D : va_G} {N F T : Nat → Nat → Int32} {K : Nat → Int32} {A : Nat → Nat → Int32} {w : Int64} {t u : Nat} (ht : t < 2) (hu : u < 2) (hne : u ≠ t) {c : Nat} (hc : T u 1 = nI c) (h12 : c ≤ 12) : CtV l yX2_copyFrom cX2_copyFrom 3 2 0 0 P D 97 97 False (cw P N F T K A w) (cw P (cpN (c + 1) c (12 * t) (12 * u) 0 N) (cp4 F (4 * t) (4 * u)) (va_up T t (T u)) K A w) [.ref (rT P t), .ref (rT P u)] := by
  refine mk_Met pl_X2 [(0, .ref (rT P t)), (1, .ref (rT P u))] rfl (Nat.le_of_ble_eq_true rfl) ?_
  intro p e s m args below meth cd C
  have ht9 : t ≠ u := fun z => hne z.symm
  refine v_eq (f' := cw P N F (va_up T t (T t)) K A w) (by rw [va_up_eta]) ?_
  refine v_aload_n C 0 dX2_copyFrom_0 rfl ?_
  refine v_aload_n C 1 dX2_copyFrom_1 rfl ?_
  refine v_gTu C hu 0 (by decide) k_124 (by rw [va_up_ne _ _ hne]; rfl) dX2_copyFrom_2 ?_
  refine v_pT C ht 0 (by decide) k_124 dX2_copyFrom_5 ?_
  refine v_aload_n C 0 dX2_copyFrom_8 rfl ?_
  refine v_aload_n C 1 dX2_copyFrom_9 rfl ?_
  refine v_gTu C hu 1 (by decide) k_125 (by rw [va_up_ne _ _ hne]; rfl) dX2_copyFrom_10 ?_
  refine v_pT C ht 1 (by decide) k_125 dX2_copyFrom_13 ?_
  refine v_iconst (v := 0) C dX2_copyFrom_16 rfl ?_
  refine v_istore_n (lv' := [(2, .int 0), (0, .ref (rT P t)), (1, .ref (rT P u))]) C dX2_copyFrom_17 rfl (by decide) rfl ?_
  have L_1 : ∀ (n : Nat) (i : Nat) (N9 : Nat → Nat → Int32), i ≤ c → c < i + n → V p l e (rmO 2 0 0) s m args below meth cd P D (MQ below (QcV P D 97 False (cw P (cpN (c + 1) c (12 * t) (12 * u) 0 N) (cp4 F (4 * t) (4 * u)) (va_up T t (T u)) K A w)) args s 0 0 (aO P)) 3 97 False (cw P (cpN n c (12 * t) (12 * u) i N9) F (va_up T t (T u)) K A w) 0 0 47 [(0, .ref (rT P t)), (1, .ref (rT P u))] [] → V p l e (rmO 2 0 0) s m args below meth cd P D (MQ below (QcV P D 97 False (cw P (cpN (c + 1) c (12 * t) (12 * u) 0 N) (cp4 F (4 * t) (4 * u)) (va_up T t (T u)) K A w)) args s 0 0 (aO P)) 3 97 False (cw P N9 F (va_up T t (T u)) K A w) 0 0 18 [(2, .int (nI i)), (0, .ref (rT P t)), (1, .ref (rT P u))] [] := by
    intro n
    induction n with
    | zero => intro i N9 h1 h2; omega
    | succ n ih =>
      intro i N9 h1 h2 hk9
      refine v_iload_n C 0 dX2_copyFrom_18 rfl ?_
      refine v_aload_n C 1 dX2_copyFrom_19 rfl ?_
      refine v_gT C ht 1 (by decide) k_125 rfl dX2_copyFrom_20 ?_
      refine v_icmp_ge (tgt := 47) C dX2_copyFrom_23 (by decide) (fun h23_1 => ?_) (fun h23_1 => ?_)
      · refine v_lv [1, 2] rfl ?_
        have hic : c ≤ i := (leC hc h12 h1).mp h23_1
        have e9 : cpN (n + 1) c (12 * t) (12 * u) i N9 = N9 := by rw [cpN, if_pos hic]
        rw [e9] at hk9
        exact hk9
      · have hic : i < c := Nat.not_le.mp (fun q => h23_1 ((leC hc h12 h1).mpr q))
        refine v_aload_n C 1 dX2_copyFrom_26 rfl ?_
        refine v_gT C ht 2 (by decide) k_127 rfl dX2_copyFrom_27 ?_
        refine v_iload_n C 0 dX2_copyFrom_30 rfl ?_
        refine v_aaNk C i ht (nI_clamp (by omega)) (vp_in_nI (by omega) (by omega)) dX2_copyFrom_31 ?_
        refine v_aload_n C 2 dX2_copyFrom_32 rfl ?_
        refine v_gTu C hu 2 (by decide) k_127 (by rw [va_up_ne _ _ hne]; rfl) dX2_copyFrom_33 ?_
        refine v_iload_n C 0 dX2_copyFrom_36 rfl ?_
        refine v_aaNk C i hu (nI_clamp (by omega)) (vp_in_nI (by omega) (by omega)) dX2_copyFrom_37 ?_
        refine go_V (run_VN C (u_X1_copyFrom (by omega) (by omega) (by omega)) k_465 k_3 (List.mem_of_getElem? (i := 18) rfl) k_464 ks_22 dd_X1_copyFrom ⟨Nat.le_of_ble_eq_true rfl, Nat.le_of_ble_eq_true rfl⟩ (rcN (by omega)) rfl (Nat.le_of_ble_eq_true rfl) dX2_copyFrom_38 ⟨Nat.le_of_ble_eq_true rfl, Nat.le_of_ble_eq_true rfl⟩) ?_
        refine v_iinc (b := (nI (i + 1))) (lv' := [(2, .int (nI (i + 1))), (0, .ref (rT P t)), (1, .ref (rT P u))]) C 0 dX2_copyFrom_41 rfl (nI_1 _) (by decide) rfl ?_
        refine v_goto (tgt := 18) C dX2_copyFrom_44 (by decide) ?_
        have e9 : cpN (n + 1) c (12 * t) (12 * u) i N9 = cpN n c (12 * t) (12 * u) (i + 1) (va_up N9 (12 * t + i) (N9 (12 * u + i))) := by rw [cpN, if_neg (by omega)]
        rw [e9] at hk9
        exact ih _ _ (by omega) (by omega) hk9
  refine v_eq (f' := (cw P N F (va_up T t (T u)) K A w)) (cw_cT (lt2 ⟨rfl, rfl⟩)) ?_
  refine L_1 (c + 1) 0 N (by omega) (by omega) ?_
  refine v_iconst (v := 0) C dX2_copyFrom_47 rfl ?_
  refine v_istore_n (lv' := [(2, .int 0), (0, .ref (rT P t)), (1, .ref (rT P u))]) C dX2_copyFrom_48 rfl (by decide) rfl ?_
  refine v_iload_n C 0 dX2_copyFrom_49 rfl ?_
  refine v_iconst (v := 4) C dX2_copyFrom_50 rfl ?_
  refine v_icmp_ge (tgt := 75) C dX2_copyFrom_51 (by decide) (fun h9 => absurd h9 (by decide)) (fun _ => ?_)
  refine v_aload_n C 1 dX2_copyFrom_54 rfl ?_
  refine v_gT C ht 3 (by decide) k_129 rfl dX2_copyFrom_55 ?_
  refine v_iload_n C 0 dX2_copyFrom_58 rfl ?_
  refine v_aaFk C 0 ht tn_0 in4_0 dX2_copyFrom_59 ?_
  refine v_aload_n C 2 dX2_copyFrom_60 rfl ?_
  refine v_gTu C hu 3 (by decide) k_129 (by rw [va_up_ne _ _ hne]; rfl) dX2_copyFrom_61 ?_
  refine v_iload_n C 0 dX2_copyFrom_64 rfl ?_
  refine v_aaFk C 0 hu tn_0 in4_0 dX2_copyFrom_65 ?_
  refine go_V (run_VN C (u_X0_copyFrom (by omega) (by omega) (by omega)) k_494 k_4 (List.mem_of_getElem? (i := 19) rfl) k_493 ks_25 dd_X0_copyFrom ⟨Nat.le_of_ble_eq_true rfl, Nat.le_of_ble_eq_true rfl⟩ (rcF (by omega)) rfl (Nat.le_of_ble_eq_true rfl) dX2_copyFrom_66 ⟨Nat.le_of_ble_eq_true rfl, Nat.le_of_ble_eq_true rfl⟩) ?_
  refine v_iinc (b := 1) (lv' := [(2, .int 1), (0, .ref (rT P t)), (1, .ref (rT P u))]) C 0 dX2_copyFrom_69 rfl rfl (by decide) rfl ?_
  refine v_goto (tgt := 49) C dX2_copyFrom_72 (by decide) ?_
  refine v_iload_n C 0 dX2_copyFrom_49 rfl ?_
  refine v_iconst (v := 4) C dX2_copyFrom_50 rfl ?_
  refine v_icmp_ge (tgt := 75) C dX2_copyFrom_51 (by decide) (fun h9 => absurd h9 (by decide)) (fun _ => ?_)
  refine v_aload_n C 1 dX2_copyFrom_54 rfl ?_
  refine v_gT C ht 3 (by decide) k_129 rfl dX2_copyFrom_55 ?_
  refine v_iload_n C 0 dX2_copyFrom_58 rfl ?_
  refine v_aaFk C 1 ht tn_1 in4_1 dX2_copyFrom_59 ?_
  refine v_aload_n C 2 dX2_copyFrom_60 rfl ?_
  refine v_gTu C hu 3 (by decide) k_129 (by rw [va_up_ne _ _ hne]; rfl) dX2_copyFrom_61 ?_
  refine v_iload_n C 0 dX2_copyFrom_64 rfl ?_
  refine v_aaFk C 1 hu tn_1 in4_1 dX2_copyFrom_65 ?_
  refine go_V (run_VN C (u_X0_copyFrom (by omega) (by omega) (by omega)) k_494 k_4 (List.mem_of_getElem? (i := 19) rfl) k_493 ks_25 dd_X0_copyFrom ⟨Nat.le_of_ble_eq_true rfl, Nat.le_of_ble_eq_true rfl⟩ (rcF (by omega)) rfl (Nat.le_of_ble_eq_true rfl) dX2_copyFrom_66 ⟨Nat.le_of_ble_eq_true rfl, Nat.le_of_ble_eq_true rfl⟩) ?_
  refine v_iinc (b := 2) (lv' := [(2, .int 2), (0, .ref (rT P t)), (1, .ref (rT P u))]) C 0 dX2_copyFrom_69 rfl rfl (by decide) rfl ?_
  refine v_goto (tgt := 49) C dX2_copyFrom_72 (by decide) ?_
  refine v_iload_n C 0 dX2_copyFrom_49 rfl ?_
  refine v_iconst (v := 4) C dX2_copyFrom_50 rfl ?_
  refine v_icmp_ge (tgt := 75) C dX2_copyFrom_51 (by decide) (fun h9 => absurd h9 (by decide)) (fun _ => ?_)
  refine v_aload_n C 1 dX2_copyFrom_54 rfl ?_
  refine v_gT C ht 3 (by decide) k_129 rfl dX2_copyFrom_55 ?_
  refine v_iload_n C 0 dX2_copyFrom_58 rfl ?_
  refine v_aaFk C 2 ht tn_2 in4_2 dX2_copyFrom_59 ?_
  refine v_aload_n C 2 dX2_copyFrom_60 rfl ?_
  refine v_gTu C hu 3 (by decide) k_129 (by rw [va_up_ne _ _ hne]; rfl) dX2_copyFrom_61 ?_
  refine v_iload_n C 0 dX2_copyFrom_64 rfl ?_
  refine v_aaFk C 2 hu tn_2 in4_2 dX2_copyFrom_65 ?_
  refine go_V (run_VN C (u_X0_copyFrom (by omega) (by omega) (by omega)) k_494 k_4 (List.mem_of_getElem? (i := 19) rfl) k_493 ks_25 dd_X0_copyFrom ⟨Nat.le_of_ble_eq_true rfl, Nat.le_of_ble_eq_true rfl⟩ (rcF (by omega)) rfl (Nat.le_of_ble_eq_true rfl) dX2_copyFrom_66 ⟨Nat.le_of_ble_eq_true rfl, Nat.le_of_ble_eq_true rfl⟩) ?_
  refine v_iinc (b := 3) (lv' := [(2, .int 3), (0, .ref (rT P t)), (1, .ref (rT P u))]) C 0 dX2_copyFrom_69 rfl rfl (by decide) rfl ?_
  refine v_goto (tgt := 49) C dX2_copyFrom_72 (by decide) ?_
  refine v_iload_n C 0 dX2_copyFrom_49 rfl ?_
  refine v_iconst (v := 4) C dX2_copyFrom_50 rfl ?_
  refine v_icmp_ge (tgt := 75) C dX2_copyFrom_51 (by decide) (fun h9 => absurd h9 (by decide)) (fun _ => ?_)
  refine v_aload_n C 1 dX2_copyFrom_54 rfl ?_
  refine v_gT C ht 3 (by decide) k_129 rfl dX2_copyFrom_55 ?_
  refine v_iload_n C 0 dX2_copyFrom_58 rfl ?_
  refine v_aaFk C 3 ht tn_3 in4_3 dX2_copyFrom_59 ?_
  refine v_aload_n C 2 dX2_copyFrom_60 rfl ?_
  refine v_gTu C hu 3 (by decide) k_129 (by rw [va_up_ne _ _ hne]; rfl) dX2_copyFrom_61 ?_
  refine v_iload_n C 0 dX2_copyFrom_64 rfl ?_
  refine v_aaFk C 3 hu tn_3 in4_3 dX2_copyFrom_65 ?_
  refine go_V (run_VN C (u_X0_copyFrom (by omega) (by omega) (by omega)) k_494 k_4 (List.mem_of_getElem? (i := 19) rfl) k_493 ks_25 dd_X0_copyFrom ⟨Nat.le_of_ble_eq_true rfl, Nat.le_of_ble_eq_true rfl⟩ (rcF (by omega)) rfl (Nat.le_of_ble_eq_true rfl) dX2_copyFrom_66 ⟨Nat.le_of_ble_eq_true rfl, Nat.le_of_ble_eq_true rfl⟩) ?_
  refine v_iinc (b := 4) (lv' := [(2, .int 4), (0, .ref (rT P t)), (1, .ref (rT P u))]) C 0 dX2_copyFrom_69 rfl rfl (by decide) rfl ?_
  refine v_goto (tgt := 49) C dX2_copyFrom_72 (by decide) ?_
  refine v_iload_n C 0 dX2_copyFrom_49 rfl ?_
  refine v_iconst (v := 4) C dX2_copyFrom_50 rfl ?_
  refine v_icmp_ge (tgt := 75) C dX2_copyFrom_51 (by decide) (fun _ => ?_) (fun h9 => absurd (by decide) h9)
  exact v_vret C dX2_copyFrom_75 rfl
end
section
/-! THROWS: a method that throws always, in the case that its contract names; the world stays -/
def nms : List String := ["java/lang/RuntimeException", "java/lang/Exception"]
def icX (n : Nat) : Nat := if n = 1 then 121 else if n = 2 then 145 else 42
theorem thr_in3 : ∀ w ∈ (vx_atS RX3 (icX 3) (xn 3) nms).filter goodWord, w ∈ lw_tbl := by decide +kernel
theorem thr_in1 : ∀ w ∈ (vx_atS RX3 (icX 1) (xn 1) nms).filter goodWord, w ∈ lw_tbl := by decide +kernel
theorem thr_in2 : ∀ w ∈ (vx_atS RX3 (icX 2) (xn 2) nms).filter goodWord, w ∈ lw_tbl := by decide +kernel
theorem thr_bad3 : ∀ w ∈ (vx_atS RX3 (icX 3) (xn 3) nms).filter (fun w => !goodWord w), w ∈ Cond.castable (xn 3) (xn 3) :: dcN.map (fun Y => Cond.declares (Bundle.initS Y)) := by decide +kernel
theorem thr_bad1 : ∀ w ∈ (vx_atS RX3 (icX 1) (xn 1) nms).filter (fun w => !goodWord w), w ∈ Cond.castable (xn 1) (xn 1) :: dcN.map (fun Y => Cond.declares (Bundle.initS Y)) := by decide +kernel
theorem thr_bad2 : ∀ w ∈ (vx_atS RX3 (icX 2) (xn 2) nms).filter (fun w => !goodWord w), w ∈ Cond.castable (xn 2) (xn 2) :: dcN.map (fun Y => Cond.declares (Bundle.initS Y)) := by decide +kernel
def ikX (n : Nat) : Nat := if n = 1 then 117 else if n = 2 then 141 else 38
theorem thr_ot : ∀ n, n = 1 ∨ n = 2 ∨ n = 3 → ∀ w ∈ Cond.classLink RX3 (ikX n) (xn n) :: Cond.initialized (xn n) :: vx_atS RX3 (icX n) (xn n) nms, vx_ot w = true := by
  intro n hn
  rcases hn with rfl | rfl | rfl <;> exact List.all_eq_true.mp (by decide +kernel)
theorem thr_at {args : Array Value} {s : State} {P : L5} (hts : ∀ w ∈ gtb, w.before args s = true) (hST : ST P s) : ∀ n, n = 1 ∨ n = 2 ∨ n = 3 → ∀ w ∈ vx_atS RX3 (icX n) (xn n) nms, w.before args s = true := by
  intro n hn
  have hc : ∀ w ∈ Cond.castable (xn n) (xn n) :: dcN.map (fun Y => Cond.declares (Bundle.initS Y)), w.before args s = true := by
    intro w hw
    rcases List.mem_cons.mp hw with rfl | hw
    · exact va_Nw.use rfl (hST.2.2.2.2.2.2.1 n)
    · obtain ⟨Y, hY, rfl⟩ := List.mem_map.mp hw
      exact va_Nw.use rfl (hST.2.2.2.2.2.2.2.2 Y hY)
  rcases hn with rfl | rfl | rfl
  · exact vx_hat (fun w hw => hts w (List.mem_filter.mpr ⟨thr_in1 w hw, (List.mem_filter.mp hw).2⟩)) thr_bad1 hc
  · exact vx_hat (fun w hw => hts w (List.mem_filter.mpr ⟨thr_in2 w hw, (List.mem_filter.mp hw).2⟩)) thr_bad2 hc
  · exact vx_hat (fun w hw => hts w (List.mem_filter.mpr ⟨thr_in3 w hw, (List.mem_filter.mp hw).2⟩)) thr_bad3 hc
theorem thr_k : ∀ n, n = 1 ∨ n = 2 ∨ n = 3 → Cond.classLink RX3 (ikX n) (xn n) ∈ gtb ∧ Cond.initialized (xn n) ∈ gtb := by
  intro n hn
  rcases hn with rfl | rfl | rfl
  · exact ⟨k_215, k_9⟩
  · exact ⟨k_286, k_10⟩
  · exact ⟨k_302, k_11⟩
theorem thr_fit : ∀ n, n = 1 ∨ n = 2 ∨ n = 3 → Bundle.fit (xn n) = true := by
  intro n hn
  rcases hn with rfl | rfl | rfl <;> decide +kernel
theorem thr_nms : ∀ n ∈ nms, Bundle.fit n = true := by decide +kernel
abbrev XcX (P : L5) (D : va_G) (f : Nat → va_E) (n : Nat) : String → State → State → Prop := vx_X (fun (_ : Unit) => True) (fun E _ t => E = xn n ∧ va_P D vwCl (wl P.1 97 f) t.heap) (aO P)
abbrev QxI (P : L5) : Array Value → State → Outcome → State → Prop := va_Qi (fun (_ : Int32) (_ : Unit) => False) (fun _ _ => True) (aO P)
abbrev QxV (P : L5) : Array Value → State → Outcome → State → Prop := va_Qv (fun (_ : Unit) => False) (fun _ _ => True) (aO P)
def CxV (l : Launch) (y : MethodName) (b : ByteArray) (nL : Nat) (h : Nat) (P : L5) (D : va_G) (f : Nat → va_E) (av : List Value) (n : Nat) : Prop := vx_Met l y (.code y b nL none :: gtb) (rmO h 1 6) (va_Pc av (PreI P D 97 False f)) (QxV P) (XcX P D f n) 1 6 (aO P)
def CxI (l : Launch) (y : MethodName) (b : ByteArray) (nL : Nat) (rt : FieldType) (h : Nat) (P : L5) (D : va_G) (f : Nat → va_E) (av : List Value) (n : Nat) : Prop := vx_Met l y (.code y b nL (some rt) :: gtb) (rmO h 1 6) (va_Pc av (PreI P D 97 False f)) (QxI P) (XcX P D f n) 1 6 (aO P)
theorem mk_MetX {l : Launch} {y : MethodName} {b : ByteArray} {nL : Nat} {rt : Option FieldType} {h mc ms : Nat} {P : L5} {D : va_G} {n : Nat} {x : Prop} {f : Nat → va_E} {av : List Value} {Qc : Array Value → State → Outcome → State → Prop} {XC : String → State → State → Prop} (hy : plainName y.cls = true) (lv : List (Nat × Value)) (hlv : lv_args 0 av = lv) (hlen : (lg_sl av).length ≤ nL)
    (body : ∀ (p : Program) (e : Env) (s : State) (m : MethodId) (args : Array Value) (below : List Frame) (meth : Method) (c : Code), Cx p l s m args meth c P D b nL rt y.cls → (∀ x ∈ c.exceptionTable.toList, False) → V p l e (rmO h mc ms) s m args below meth c P D (vx_MQ below Qc XC args s mc ms (aO P)) nL n x f 0 0 0 lv []) :
    vx_Met l y (.code y b nL rt :: gtb) (rmO h mc ms) (va_Pc av (PreI P D n x f)) Qc XC mc ms (aO P) := by
  refine vx_ofW (cc := b) (maxL := nL) (ret := rt) hy rfl ?_
  intro p e s m args below meth c s₁ B hml hnt hv
  obtain ⟨rfl, hP, hK, ho, hz, hST⟩ := hv
  have hts := atoms_spec (ws := (.code y b nL rt :: gtb)) B.pre
  have hown : s.vm.findClass y.cls = some m.cls := findClass_of_methodNamed B.named
  have C : Cx p l s m av.toArray meth c P D b nL rt y.cls := ⟨B.exec, B.bytes, hml, hown, fun w hw => hts w (List.mem_cons_of_mem _ hw), B.returns, B.notSynchronized, hK, ho, hST⟩
  have hl := lv_entry av hlen
  rw [lg_entry_eq]
  rw [hlv] at hl
  exact body p e s m av.toArray below meth c C hnt s.heap [] _ hP hz va_S.rf hl
section VThrow
variable {p : Program} {l : Launch} {e : Env} {R : Room} {s : State} {m : MethodId} {args : Array Value} {below : List Frame} {meth : Method} {c : Code} {P : L5} {D : va_G} {Q : State → Prop} {nL : Nat} {f : Nat → va_E} {k z pc : Nat} {lv : List (Nat × Value)} {st : List Value} {cc : ByteArray} {ret : Option FieldType}
theorem v_throw (C : Cx p l s m args meth c P D cc nL ret RX3) (hnt : ∀ x ∈ c.exceptionTable.toList, False) (hl9 : l.stackTraces = false) (n : Nat) (hn : n = 1 ∨ n = 2 ∨ n = 3) {is : Nat} {text : String} (hs9 : (is, text) ∈ strQ) {mc ms : Nat} {Qc : Array Value → State → Outcome → State → Prop}
    (d0 : decode cc pc = .ok (.new (ikX n), 3)) (d3 : decode cc (pc + 3) = .ok (.dup, 1)) (d4 : decode cc (pc + 4) = .ok (.ldc is, 2)) (d6 : decode cc (pc + 6) = .ok (.invokespecial (icX n), 3)) (d9 : decode cc (pc + 9) = .ok (.athrow, 1))
    (hR : 5 < R.frames) (hlo : (st.map fun v => v.category).sum + 82 ≤ R.locals) (hRc : k + 1 ≤ R.cells) (hRs : z + 6 ≤ R.slots) (hc : k + 1 ≤ mc) (hs : z + 6 ≤ ms) :
    V p l e R s m args below meth c P D (vx_MQ below Qc (XcX P D f n) args s mc ms (aO P)) nL 97 False f k z pc lv st := by
  intro H locs ls hP hz hS hl
  obtain ⟨hx, hb, hml, hown, hts, hr, hlk, hK, ho, hST⟩ := id C
  obtain ⟨sa, hsa⟩ := hST.2.2.1 _ hs9
  refine vx_throwS (names := nms) (sa := sa) hx hb hl9 hown (thr_fit n hn) thr_nms (hts _ (thr_k n hn).1) (hts _ (thr_k n hn).2) hsa (thr_at hts hST n hn) (thr_ot n hn) hST.2.1.1 hST.2.1.2 hS (hl.1.trans hml.symm) d0 d3 d4 d6 d9 (fun x9 h9 => (hnt x9 h9).elim) hR hlo hRc hRs hlk (fun t ht h1 h2 => ⟨(), trivial, ⟨rfl, ?_⟩, ?_⟩) hS.2.2 hc hs
  · exact hP.kept (fun k9 q9 h9 => h2 q9.1 ((hP k9 q9 h9).lt))
  · exact ⟨Nat.le_trans hS.1 h1, fun q h3 h4 => (h2 q (Nat.lt_of_lt_of_le h3 hS.1)).trans (hS.2.1 q h3 h4)⟩
theorem gox_V {own : String} (C : Cx p l s m args meth c P D cc nL ret own) (hnt : ∀ x ∈ c.exceptionTable.toList, False) {n mc ms : Nat} {Qc : Array Value → State → Outcome → State → Prop} {rest : List Value} {a : Array Value} (hr : ∀ (H : Heap) (locs : List Loc) (ls : Array Slot), va_P D vwCl (wl P.1 97 f) H → (False → H.size = P.1 + 97) → va_S (fun q => P.1 ≤ q) s.heap H locs → lv_has ls nL lv → vx_Run p l e R s m args below meth c H locs k z 1 6 (F0 m pc ls st) rest (QxV P a) (XcX P D f n) (aO P)) (hc : k + 1 ≤ mc) (hs : z + 6 ≤ ms) :
    V p l e R s m args below meth c P D (vx_MQ below Qc (XcX P D f n) args s mc ms (aO P)) nL 97 False f k z pc lv st := by
  intro H locs ls hP hz hS hl
  refine vx_callv (hr H locs ls hP hz hS hl) hS (fun q _ h => h) (fun q h => h) (fun q _ h => h) (fun E ce q9 u t H1 locs1 ht hvm hp hB hz1 hk1 hS1 hce hcv hcl => ?_) (fun u t H1 locs1 ht hvm hw => hw.elim)
  refine vx_out (fun x9 h9 => (hnt x9 h9).elim) C.2.2.2.2.2.2.1 hce hcv hcl (fun t9 h9 h10 => ⟨(), trivial, ⟨hB.1, ?_⟩, ?_⟩) hS1.2.2 hc hs
  · rw [h9, ← ht]; exact hB.2
  · exact ⟨by rw [h9]; exact hS1.1, fun q h3 h4 => by rw [h9]; exact hS1.2.1 q h3 h4⟩
end VThrow
end
