section
-- ===== PART A: goes FIRST, ahead of the names: the tables' words, and 'selects' of the private methods out of them =====
/-- a private method of a class that the tables say can be made, by its rows of tables_1 -/
def lw_okq (q : MethodName × Nat) : Prop := (q.1.cls ≠ "java/lang/invoke/MethodHandle" ∧ q.1.cls ≠ "java/lang/invoke/VarHandle") ∧ Cond.instantiable q.1.cls q.2 ∈ tables_1 ∧ Cond.privateMethod q.1 ∈ tables_1 ∧ Cond.instanceMethod q.1 ∈ tables_1
theorem lw_p0 : lw_okq (⟨"NailRods$Trade", "total", "(I)I"⟩, 4) := ⟨⟨by decide +kernel, by decide +kernel⟩, List.mem_of_getElem? (i := 23) (by decide +kernel), List.mem_of_getElem? (i := 167) (by decide +kernel), List.mem_of_getElem? (i := 168) (by decide +kernel)⟩
theorem lw_p1 : lw_okq (⟨"NailRods$Trade", "warehouseBags", "()I"⟩, 4) := ⟨⟨by decide +kernel, by decide +kernel⟩, List.mem_of_getElem? (i := 23) (by decide +kernel), List.mem_of_getElem? (i := 171) (by decide +kernel), List.mem_of_getElem? (i := 172) (by decide +kernel)⟩
theorem lw_p2 : lw_okq (⟨"NailRods$Trade", "sumOfShares", "(I)I"⟩, 4) := ⟨⟨by decide +kernel, by decide +kernel⟩, List.mem_of_getElem? (i := 23) (by decide +kernel), List.mem_of_getElem? (i := 175) (by decide +kernel), List.mem_of_getElem? (i := 176) (by decide +kernel)⟩
theorem lw_p3 : lw_okq (⟨"NailRods$Nailer", "shareOfTotal", "(I)I"⟩, 14) := ⟨⟨by decide +kernel, by decide +kernel⟩, List.mem_of_getElem? (i := 30) (by decide +kernel), List.mem_of_getElem? (i := 179) (by decide +kernel), List.mem_of_getElem? (i := 180) (by decide +kernel)⟩
theorem lw_p4 : lw_okq (⟨"NailRods$Nailer", "addToDigest", "(J)J"⟩, 14) := ⟨⟨by decide +kernel, by decide +kernel⟩, List.mem_of_getElem? (i := 30) (by decide +kernel), List.mem_of_getElem? (i := 186) (by decide +kernel), List.mem_of_getElem? (i := 187) (by decide +kernel)⟩
theorem lw_p5 : lw_okq (⟨"NailRods$Nailer", "number", "(I)I"⟩, 14) := ⟨⟨by decide +kernel, by decide +kernel⟩, List.mem_of_getElem? (i := 30) (by decide +kernel), List.mem_of_getElem? (i := 191) (by decide +kernel), List.mem_of_getElem? (i := 192) (by decide +kernel)⟩
theorem lw_p6 : lw_okq (⟨"NailRods$Trade", "foggerNumber", "(II)I"⟩, 4) := ⟨⟨by decide +kernel, by decide +kernel⟩, List.mem_of_getElem? (i := 23) (by decide +kernel), List.mem_of_getElem? (i := 195) (by decide +kernel), List.mem_of_getElem? (i := 196) (by decide +kernel)⟩
theorem lw_p7 : lw_okq (⟨"NailRods$Trade", "workersFor", "(I)I"⟩, 4) := ⟨⟨by decide +kernel, by decide +kernel⟩, List.mem_of_getElem? (i := 23) (by decide +kernel), List.mem_of_getElem? (i := 199) (by decide +kernel), List.mem_of_getElem? (i := 200) (by decide +kernel)⟩
theorem lw_p8 : lw_okq (⟨"java/lang/Throwable", "fillInStackTrace", "(I)Ljava/lang/Throwable;"⟩, 6) := ⟨⟨by decide +kernel, by decide +kernel⟩, List.mem_of_getElem? (i := 254) (by decide +kernel), List.mem_of_getElem? (i := 252) (by decide +kernel), List.mem_of_getElem? (i := 253) (by decide +kernel)⟩
theorem lw_p9 : lw_okq (⟨"NailRods$Nailer", "begin", "(III)V"⟩, 14) := ⟨⟨by decide +kernel, by decide +kernel⟩, List.mem_of_getElem? (i := 30) (by decide +kernel), List.mem_of_getElem? (i := 319) (by decide +kernel), List.mem_of_getElem? (i := 320) (by decide +kernel)⟩
theorem lw_p10 : lw_okq (⟨"NailRods", "needNailer", "(I)V"⟩, 3) := ⟨⟨by decide +kernel, by decide +kernel⟩, List.mem_of_getElem? (i := 15) (by decide +kernel), List.mem_of_getElem? (i := 330) (by decide +kernel), List.mem_of_getElem? (i := 331) (by decide +kernel)⟩
theorem lw_p11 : lw_okq (⟨"NailRods$Trade", "goBy", "(I)I"⟩, 4) := ⟨⟨by decide +kernel, by decide +kernel⟩, List.mem_of_getElem? (i := 23) (by decide +kernel), List.mem_of_getElem? (i := 401) (by decide +kernel), List.mem_of_getElem? (i := 402) (by decide +kernel)⟩
theorem lw_p12 : lw_okq (⟨"NailRods$Trade", "goByOne", "()I"⟩, 4) := ⟨⟨by decide +kernel, by decide +kernel⟩, List.mem_of_getElem? (i := 23) (by decide +kernel), List.mem_of_getElem? (i := 405) (by decide +kernel), List.mem_of_getElem? (i := 406) (by decide +kernel)⟩
theorem lw_p13 : lw_okq (⟨"NailRods$Nailer", "workHour", "()I"⟩, 14) := ⟨⟨by decide +kernel, by decide +kernel⟩, List.mem_of_getElem? (i := 30) (by decide +kernel), List.mem_of_getElem? (i := 409) (by decide +kernel), List.mem_of_getElem? (i := 410) (by decide +kernel)⟩
theorem lw_p14 : lw_okq (⟨"NailRods$Nailer", "tendFire", "()V"⟩, 14) := ⟨⟨by decide +kernel, by decide +kernel⟩, List.mem_of_getElem? (i := 30) (by decide +kernel), List.mem_of_getElem? (i := 413) (by decide +kernel), List.mem_of_getElem? (i := 414) (by decide +kernel)⟩
theorem lw_p15 : lw_okq (⟨"NailRods$Nailer", "head", "(I)I"⟩, 14) := ⟨⟨by decide +kernel, by decide +kernel⟩, List.mem_of_getElem? (i := 30) (by decide +kernel), List.mem_of_getElem? (i := 423) (by decide +kernel), List.mem_of_getElem? (i := 424) (by decide +kernel)⟩
def lw_privs_1 : List (MethodName × Nat) := [(⟨"NailRods$Trade", "total", "(I)I"⟩, 4), (⟨"NailRods$Trade", "warehouseBags", "()I"⟩, 4), (⟨"NailRods$Trade", "sumOfShares", "(I)I"⟩, 4), (⟨"NailRods$Nailer", "shareOfTotal", "(I)I"⟩, 14), (⟨"NailRods$Nailer", "addToDigest", "(J)J"⟩, 14), (⟨"NailRods$Nailer", "number", "(I)I"⟩, 14), (⟨"NailRods$Trade", "foggerNumber", "(II)I"⟩, 4), (⟨"NailRods$Trade", "workersFor", "(I)I"⟩, 4), (⟨"java/lang/Throwable", "fillInStackTrace", "(I)Ljava/lang/Throwable;"⟩, 6), (⟨"NailRods$Nailer", "begin", "(III)V"⟩, 14), (⟨"NailRods", "needNailer", "(I)V"⟩, 3), (⟨"NailRods$Trade", "goBy", "(I)I"⟩, 4), (⟨"NailRods$Trade", "goByOne", "()I"⟩, 4), (⟨"NailRods$Nailer", "workHour", "()I"⟩, 14), (⟨"NailRods$Nailer", "tendFire", "()V"⟩, 14), (⟨"NailRods$Nailer", "head", "(I)I"⟩, 14)]
theorem lw_r1 : ∀ q ∈ lw_privs_1, lw_okq q := List.forall_mem_cons.mpr ⟨lw_p0, List.forall_mem_cons.mpr ⟨lw_p1, List.forall_mem_cons.mpr ⟨lw_p2, List.forall_mem_cons.mpr ⟨lw_p3, List.forall_mem_cons.mpr ⟨lw_p4, List.forall_mem_cons.mpr ⟨lw_p5, List.forall_mem_cons.mpr ⟨lw_p6, List.forall_mem_cons.mpr ⟨lw_p7, List.forall_mem_cons.mpr ⟨lw_p8, List.forall_mem_cons.mpr ⟨lw_p9, List.forall_mem_cons.mpr ⟨lw_p10, List.forall_mem_cons.mpr ⟨lw_p11, List.forall_mem_cons.mpr ⟨lw_p12, List.forall_mem_cons.mpr ⟨lw_p13, List.forall_mem_cons.mpr ⟨lw_p14, List.forall_mem_cons.mpr ⟨lw_p15, fun _ h => absurd h List.not_mem_nil⟩⟩⟩⟩⟩⟩⟩⟩⟩⟩⟩⟩⟩⟩⟩⟩
theorem lw_p16 : lw_okq (⟨"NailRods$Nailer", "headFromHand", "(I)I"⟩, 14) := ⟨⟨by decide +kernel, by decide +kernel⟩, List.mem_of_getElem? (i := 30) (by decide +kernel), List.mem_of_getElem? (i := 427) (by decide +kernel), List.mem_of_getElem? (i := 428) (by decide +kernel)⟩
theorem lw_p17 : lw_okq (⟨"NailRods$Nailer", "store", "(I)V"⟩, 14) := ⟨⟨by decide +kernel, by decide +kernel⟩, List.mem_of_getElem? (i := 30) (by decide +kernel), List.mem_of_getElem? (i := 433) (by decide +kernel), List.mem_of_getElem? (i := 434) (by decide +kernel)⟩
theorem lw_p18 : lw_okq (⟨"NailRods$Trade", "reckonWeek", "()V"⟩, 4) := ⟨⟨by decide +kernel, by decide +kernel⟩, List.mem_of_getElem? (i := 23) (by decide +kernel), List.mem_of_getElem? (i := 437) (by decide +kernel), List.mem_of_getElem? (i := 438) (by decide +kernel)⟩
theorem lw_p19 : lw_okq (⟨"NailRods$Fogger", "buyBags", "(LNailRods$Nailer;)V"⟩, 6) := ⟨⟨by decide +kernel, by decide +kernel⟩, List.mem_of_getElem? (i := 94) (by decide +kernel), List.mem_of_getElem? (i := 441) (by decide +kernel), List.mem_of_getElem? (i := 442) (by decide +kernel)⟩
theorem lw_p20 : lw_okq (⟨"NailRods$Fogger", "collectDebt", "(LNailRods$Nailer;)V"⟩, 6) := ⟨⟨by decide +kernel, by decide +kernel⟩, List.mem_of_getElem? (i := 94) (by decide +kernel), List.mem_of_getElem? (i := 447) (by decide +kernel), List.mem_of_getElem? (i := 448) (by decide +kernel)⟩
theorem lw_p21 : lw_okq (⟨"NailRods$Fogger", "deliver", "()V"⟩, 6) := ⟨⟨by decide +kernel, by decide +kernel⟩, List.mem_of_getElem? (i := 94) (by decide +kernel), List.mem_of_getElem? (i := 452) (by decide +kernel), List.mem_of_getElem? (i := 453) (by decide +kernel)⟩
theorem lw_p22 : lw_okq (⟨"NailRods$Nailer", "copyFrom", "(LNailRods$Nailer;)V"⟩, 14) := ⟨⟨by decide +kernel, by decide +kernel⟩, List.mem_of_getElem? (i := 30) (by decide +kernel), List.mem_of_getElem? (i := 463) (by decide +kernel), List.mem_of_getElem? (i := 464) (by decide +kernel)⟩
theorem lw_p23 : lw_okq (⟨"NailRods$Nailer", "workHours", "(I)I"⟩, 14) := ⟨⟨by decide +kernel, by decide +kernel⟩, List.mem_of_getElem? (i := 30) (by decide +kernel), List.mem_of_getElem? (i := 467) (by decide +kernel), List.mem_of_getElem? (i := 468) (by decide +kernel)⟩
theorem lw_p24 : lw_okq (⟨"NailRods$Trade", "copyFrom", "(LNailRods$Trade;)V"⟩, 4) := ⟨⟨by decide +kernel, by decide +kernel⟩, List.mem_of_getElem? (i := 23) (by decide +kernel), List.mem_of_getElem? (i := 487) (by decide +kernel), List.mem_of_getElem? (i := 488) (by decide +kernel)⟩
theorem lw_p25 : lw_okq (⟨"NailRods$Fogger", "copyFrom", "(LNailRods$Fogger;)V"⟩, 6) := ⟨⟨by decide +kernel, by decide +kernel⟩, List.mem_of_getElem? (i := 94) (by decide +kernel), List.mem_of_getElem? (i := 492) (by decide +kernel), List.mem_of_getElem? (i := 493) (by decide +kernel)⟩
theorem lw_p26 : lw_okq (⟨"NailRodsModel", "no", "(I)I"⟩, 8) := ⟨⟨by decide +kernel, by decide +kernel⟩, List.mem_of_getElem? (i := 508) (by decide +kernel), List.mem_of_getElem? (i := 549) (by decide +kernel), List.mem_of_getElem? (i := 550) (by decide +kernel)⟩
theorem lw_p27 : lw_okq (⟨"NailRodsModel", "isThere", "(I)Z"⟩, 8) := ⟨⟨by decide +kernel, by decide +kernel⟩, List.mem_of_getElem? (i := 508) (by decide +kernel), List.mem_of_getElem? (i := 557) (by decide +kernel), List.mem_of_getElem? (i := 558) (by decide +kernel)⟩
theorem lw_p28 : lw_okq (⟨"NailRodsModel", "put", "(II)I"⟩, 8) := ⟨⟨by decide +kernel, by decide +kernel⟩, List.mem_of_getElem? (i := 508) (by decide +kernel), List.mem_of_getElem? (i := 569) (by decide +kernel), List.mem_of_getElem? (i := 570) (by decide +kernel)⟩
theorem lw_p29 : lw_okq (⟨"NailRodsModel", "foggerTold", "(II)I"⟩, 8) := ⟨⟨by decide +kernel, by decide +kernel⟩, List.mem_of_getElem? (i := 508) (by decide +kernel), List.mem_of_getElem? (i := 593) (by decide +kernel), List.mem_of_getElem? (i := 594) (by decide +kernel)⟩
theorem lw_p30 : lw_okq (⟨"NailRodsModel", "nailersOf", "(I)I"⟩, 8) := ⟨⟨by decide +kernel, by decide +kernel⟩, List.mem_of_getElem? (i := 508) (by decide +kernel), List.mem_of_getElem? (i := 597) (by decide +kernel), List.mem_of_getElem? (i := 598) (by decide +kernel)⟩
theorem lw_p31 : lw_okq (⟨"NailRodsModel", "counted", "(I)I"⟩, 8) := ⟨⟨by decide +kernel, by decide +kernel⟩, List.mem_of_getElem? (i := 508) (by decide +kernel), List.mem_of_getElem? (i := 605) (by decide +kernel), List.mem_of_getElem? (i := 606) (by decide +kernel)⟩
def lw_privs_2 : List (MethodName × Nat) := [(⟨"NailRods$Nailer", "headFromHand", "(I)I"⟩, 14), (⟨"NailRods$Nailer", "store", "(I)V"⟩, 14), (⟨"NailRods$Trade", "reckonWeek", "()V"⟩, 4), (⟨"NailRods$Fogger", "buyBags", "(LNailRods$Nailer;)V"⟩, 6), (⟨"NailRods$Fogger", "collectDebt", "(LNailRods$Nailer;)V"⟩, 6), (⟨"NailRods$Fogger", "deliver", "()V"⟩, 6), (⟨"NailRods$Nailer", "copyFrom", "(LNailRods$Nailer;)V"⟩, 14), (⟨"NailRods$Nailer", "workHours", "(I)I"⟩, 14), (⟨"NailRods$Trade", "copyFrom", "(LNailRods$Trade;)V"⟩, 4), (⟨"NailRods$Fogger", "copyFrom", "(LNailRods$Fogger;)V"⟩, 6), (⟨"NailRodsModel", "no", "(I)I"⟩, 8), (⟨"NailRodsModel", "isThere", "(I)Z"⟩, 8), (⟨"NailRodsModel", "put", "(II)I"⟩, 8), (⟨"NailRodsModel", "foggerTold", "(II)I"⟩, 8), (⟨"NailRodsModel", "nailersOf", "(I)I"⟩, 8), (⟨"NailRodsModel", "counted", "(I)I"⟩, 8)]
theorem lw_r2 : ∀ q ∈ lw_privs_2, lw_okq q := List.forall_mem_cons.mpr ⟨lw_p16, List.forall_mem_cons.mpr ⟨lw_p17, List.forall_mem_cons.mpr ⟨lw_p18, List.forall_mem_cons.mpr ⟨lw_p19, List.forall_mem_cons.mpr ⟨lw_p20, List.forall_mem_cons.mpr ⟨lw_p21, List.forall_mem_cons.mpr ⟨lw_p22, List.forall_mem_cons.mpr ⟨lw_p23, List.forall_mem_cons.mpr ⟨lw_p24, List.forall_mem_cons.mpr ⟨lw_p25, List.forall_mem_cons.mpr ⟨lw_p26, List.forall_mem_cons.mpr ⟨lw_p27, List.forall_mem_cons.mpr ⟨lw_p28, List.forall_mem_cons.mpr ⟨lw_p29, List.forall_mem_cons.mpr ⟨lw_p30, List.forall_mem_cons.mpr ⟨lw_p31, fun _ h => absurd h List.not_mem_nil⟩⟩⟩⟩⟩⟩⟩⟩⟩⟩⟩⟩⟩⟩⟩⟩
theorem lw_p32 : lw_okq (⟨"NailRodsModel", "hot", "()I"⟩, 8) := ⟨⟨by decide +kernel, by decide +kernel⟩, List.mem_of_getElem? (i := 508) (by decide +kernel), List.mem_of_getElem? (i := 609) (by decide +kernel), List.mem_of_getElem? (i := 610) (by decide +kernel)⟩
theorem lw_p33 : lw_okq (⟨"NailRodsModel", "summed", "([I[II)I"⟩, 8) := ⟨⟨by decide +kernel, by decide +kernel⟩, List.mem_of_getElem? (i := 508) (by decide +kernel), List.mem_of_getElem? (i := 613) (by decide +kernel), List.mem_of_getElem? (i := 614) (by decide +kernel)⟩
theorem lw_p34 : lw_okq (⟨"NailRodsModel", "sum", "([II)I"⟩, 8) := ⟨⟨by decide +kernel, by decide +kernel⟩, List.mem_of_getElem? (i := 508) (by decide +kernel), List.mem_of_getElem? (i := 617) (by decide +kernel), List.mem_of_getElem? (i := 618) (by decide +kernel)⟩
theorem lw_p35 : lw_okq (⟨"NailRodsModel", "sumOfFour", "([II)I"⟩, 8) := ⟨⟨by decide +kernel, by decide +kernel⟩, List.mem_of_getElem? (i := 508) (by decide +kernel), List.mem_of_getElem? (i := 621) (by decide +kernel), List.mem_of_getElem? (i := 622) (by decide +kernel)⟩
theorem lw_p36 : lw_okq (⟨"NailRodsModel", "pass", "([I[II)I"⟩, 8) := ⟨⟨by decide +kernel, by decide +kernel⟩, List.mem_of_getElem? (i := 508) (by decide +kernel), List.mem_of_getElem? (i := 632) (by decide +kernel), List.mem_of_getElem? (i := 633) (by decide +kernel)⟩
theorem lw_p37 : lw_okq (⟨"NailRodsModel", "work", "([II)I"⟩, 8) := ⟨⟨by decide +kernel, by decide +kernel⟩, List.mem_of_getElem? (i := 508) (by decide +kernel), List.mem_of_getElem? (i := 636) (by decide +kernel), List.mem_of_getElem? (i := 637) (by decide +kernel)⟩
theorem lw_p38 : lw_okq (⟨"NailRodsModel", "hasIron", "([II)Z"⟩, 8) := ⟨⟨by decide +kernel, by decide +kernel⟩, List.mem_of_getElem? (i := 508) (by decide +kernel), List.mem_of_getElem? (i := 642) (by decide +kernel), List.mem_of_getElem? (i := 643) (by decide +kernel)⟩
theorem lw_p39 : lw_okq (⟨"NailRodsModel", "reckon", "([I[II[I)V"⟩, 8) := ⟨⟨by decide +kernel, by decide +kernel⟩, List.mem_of_getElem? (i := 508) (by decide +kernel), List.mem_of_getElem? (i := 648) (by decide +kernel), List.mem_of_getElem? (i := 649) (by decide +kernel)⟩
theorem lw_p40 : lw_okq (⟨"NailRodsModel", "lookAhead", "()V"⟩, 8) := ⟨⟨by decide +kernel, by decide +kernel⟩, List.mem_of_getElem? (i := 508) (by decide +kernel), List.mem_of_getElem? (i := 661) (by decide +kernel), List.mem_of_getElem? (i := 662) (by decide +kernel)⟩
theorem lw_p41 : lw_okq (⟨"NailRodsModel", "passAhead", "(I)V"⟩, 8) := ⟨⟨by decide +kernel, by decide +kernel⟩, List.mem_of_getElem? (i := 508) (by decide +kernel), List.mem_of_getElem? (i := 676) (by decide +kernel), List.mem_of_getElem? (i := 677) (by decide +kernel)⟩
theorem lw_p42 : lw_okq (⟨"NailRodsModel", "worthOf", "(III)I"⟩, 8) := ⟨⟨by decide +kernel, by decide +kernel⟩, List.mem_of_getElem? (i := 508) (by decide +kernel), List.mem_of_getElem? (i := 684) (by decide +kernel), List.mem_of_getElem? (i := 685) (by decide +kernel)⟩
theorem lw_p43 : lw_okq (⟨"NailRodsModel", "wealth", "(I)I"⟩, 8) := ⟨⟨by decide +kernel, by decide +kernel⟩, List.mem_of_getElem? (i := 508) (by decide +kernel), List.mem_of_getElem? (i := 692) (by decide +kernel), List.mem_of_getElem? (i := 693) (by decide +kernel)⟩
def lw_privs_3 : List (MethodName × Nat) := [(⟨"NailRodsModel", "hot", "()I"⟩, 8), (⟨"NailRodsModel", "summed", "([I[II)I"⟩, 8), (⟨"NailRodsModel", "sum", "([II)I"⟩, 8), (⟨"NailRodsModel", "sumOfFour", "([II)I"⟩, 8), (⟨"NailRodsModel", "pass", "([I[II)I"⟩, 8), (⟨"NailRodsModel", "work", "([II)I"⟩, 8), (⟨"NailRodsModel", "hasIron", "([II)Z"⟩, 8), (⟨"NailRodsModel", "reckon", "([I[II[I)V"⟩, 8), (⟨"NailRodsModel", "lookAhead", "()V"⟩, 8), (⟨"NailRodsModel", "passAhead", "(I)V"⟩, 8), (⟨"NailRodsModel", "worthOf", "(III)I"⟩, 8), (⟨"NailRodsModel", "wealth", "(I)I"⟩, 8)]
theorem lw_r3 : ∀ q ∈ lw_privs_3, lw_okq q := List.forall_mem_cons.mpr ⟨lw_p32, List.forall_mem_cons.mpr ⟨lw_p33, List.forall_mem_cons.mpr ⟨lw_p34, List.forall_mem_cons.mpr ⟨lw_p35, List.forall_mem_cons.mpr ⟨lw_p36, List.forall_mem_cons.mpr ⟨lw_p37, List.forall_mem_cons.mpr ⟨lw_p38, List.forall_mem_cons.mpr ⟨lw_p39, List.forall_mem_cons.mpr ⟨lw_p40, List.forall_mem_cons.mpr ⟨lw_p41, List.forall_mem_cons.mpr ⟨lw_p42, List.forall_mem_cons.mpr ⟨lw_p43, fun _ h => absurd h List.not_mem_nil⟩⟩⟩⟩⟩⟩⟩⟩⟩⟩⟩⟩
def lw_privs : List (MethodName × Nat) := lw_privs_1 ++ (lw_privs_2 ++ (lw_privs_3))
def lw_tbl : List Cond := k2_sels lw_privs ++ tables_1
theorem lw_privs_ok : ∀ q ∈ lw_privs, lw_okq q := by
  show ∀ q ∈ lw_privs_1 ++ (lw_privs_2 ++ (lw_privs_3)), lw_okq q
  exact List.forall_mem_append.mpr ⟨lw_r1, List.forall_mem_append.mpr ⟨lw_r2, lw_r3⟩⟩
/-- the streams that the claim lets the run draw from -/
abbrev lw_cs : List Choice := [Jvm.Choice.named "NaN.bits"]
theorem lw_bits : nanBits ∈ lw_cs := by first | decide | exact List.mem_cons_self | simp [lw_cs, nanBits]
-- ===== end of PART A; then your names; then what follows =====
end
section
/-! ===== BEGIN words of one list among another's, by their places ===== -/
theorem goodIn_r {big : List Cond} (ws : List Cond) (ps : List Nat) (hp : ws = ps.filterMap (fun i => big[i]?)) (h : ws.all goodWord = true) : GoodIn big ws := by
  intro w hw
  have h1 := List.all_eq_true.mp h w hw
  rw [hp] at hw
  obtain ⟨i, -, hi⟩ := List.mem_filterMap.mp hw
  have hm : w ∈ big := by first | exact List.mem_of_getElem? hi | exact List.getElem?_mem hi
  exact ⟨hm, good_of_word h1⟩
theorem goodIn_app {big a b : List Cond} (ha : GoodIn big a) (hb : GoodIn big b) : GoodIn big (a ++ b) := fun w h => (List.mem_append.mp h).elim (ha w) (hb w)
theorem goodIn_ca {big a b : List Cond} {c : Cond} (ha : GoodIn big (c :: a)) (hb : GoodIn big b) : GoodIn big (c :: (a ++ b)) := fun w h => (List.mem_cons.mp h).elim (fun e => ha w (List.mem_cons.mpr (Or.inl e))) (fun h => (List.mem_append.mp h).elim (fun h => ha w (List.mem_cons.mpr (Or.inr h))) (hb w))
theorem goodIn_sub {big ws : List Cond} (hm : ∀ w ∈ ws, w ∈ big) (h : ws.all goodWord = true) : GoodIn big ws := fun w hw => ⟨hm w hw, good_of_word (List.all_eq_true.mp h w hw)⟩
/-! ===== END ===== -/

/-! ===== BEGIN exceptions that leave a method, and their catching by the caller (launches without stack traces) ===== -/
section VXA
/-! The laws vx_back, vx_callV, vx_callS, vx_callSW, vx_throw0, vx_throwS follow proofs of the library, with one case more: JvmDerived/Free/Laws.lean (Back.of_free), Shelf42/LK1.lean (callV, callS), Shelf/KitTraced.lean (throwNew0V, throwNewS). -/
/-- where a method has thrown q: the class by its name, the cell, what was written, the world -/
def vx_T (XC : String → State → State → Prop) (st : State) (q : Addr) (t : State) (mc ms : Nat) (free : Addr → Prop) : Prop :=
  ∃ (E : String) (ce : Cell) (L : List Loc), XC E st t ∧ t.heap[q]? = some ce ∧ ce.vm = .none ∧ st.vm.findClass E = some ce.cls ∧ st.WarmedH t.vm ∧ st.sameButNew ({ t with vm := st.vm } : State) L mc ms ∧ ∀ z ∈ L, free z.base
def vx_Q (Qc : Array Value → State → Outcome → State → Prop) (XC : String → State → State → Prop) (mc ms : Nat) (free : Addr → Prop) : Array Value → State → Outcome → State → Prop := fun a st o t =>
  (Qc a st o t ∧ ∃ L, FrameEnd st o t L mc ms ∧ ∀ q ∈ L, free q.base) ∨ ∃ q, o = .threw q ∧ vx_T XC st q t mc ms free
/-- a callee that returns or throws -/
def vx_Met (l : Launch) (y : MethodName) (ws : List Cond) (rm : Room) (Pc : Array Value → State → Prop) (Qc : Array Value → State → Outcome → State → Prop) (XC : String → State → State → Prop) (mc ms : Nat) (free : Addr → Prop) : Prop :=
  MetFree l y (headSpec ws rm) Pc (fun _ _ _ _ _ => True) (vx_Q Qc XC mc ms free)
def vx_Post (XC : String → State → State → Prop) (mc ms : Nat) (free : Addr → Prop) : Pt → Array Value → Addr → Pt → Prop := fun A a q B =>
  ∃ (g : JFrame) (mk : MethodId) (t : State) (L : List Loc) (E : String) (ce : Cell), B.U.heap = t.heap ∧ B.U.vm = t.vm ∧ XC E (A.U.calling g mk a) t ∧ t.heap[q]? = some ce ∧ ce.vm = .none ∧ A.U.vm.findClass E = some ce.cls ∧ B.locs = A.locs ++ L ∧ (∀ z ∈ L, free z.base) ∧ B.cells = A.cells + mc ∧ B.slots = A.slots + ms
def vx_Back (l : Launch) (R : Room) (p : Program) (e : Env) (below : List Frame) (s : State) (sargs : Array Value) (y : MethodName) (len W9 : Nat)
    (Pre : Pt → Array Value → Prop) (Post : Pt → Array Value → Option Value → Pt → Prop) (PostX : Pt → Array Value → Addr → Pt → Prop) : Prop :=
  ∀ (m : MethodId) (meth : Method) (c : Code) (A : Pt) (g : JFrame) (ig : Instr) (mk : MethodId) (a : Array Value),
    Stand p l e R s m sargs below meth c A.U A.locs A.cells A.slots → g.method = m → g.locals.size = c.maxLocals → decode c.code g.pc = .ok (ig, len) →
    2 * g.monitorRoom + (g.stack.map fun v => v.category).sum ≤ W9 → A.U.methodNamed? y = some mk → Pre A a →
    (∃ (v : Option Value) (B : Pt), Stand p l e R s m sargs below meth c B.U B.locs B.cells B.slots ∧ Post A a v B ∧
      Steps p.tables e below (doInvoke e (A.U.setTop g) [] mk a).1 (B.U.setTop { g with pc := g.pc + len, stack := v.toList ++ g.stack })) ∨
    (∃ (q : Addr) (B : Pt), Stand p l e R s m sargs below meth c B.U B.locs B.cells B.slots ∧ PostX A a q B ∧
      Steps p.tables e below (doInvoke e (A.U.setTop g) [] mk a).1 ((B.U.setTop g).pushFrame (.throwing q)))
section Payer
variable {l : Launch} {R : Room} {p : Program} {e : Env} {below : List Frame} {s : State} {sargs : Array Value} {y : MethodName} {len W9 : Nat}
theorem vx_back {ws : List Cond} {rm : Room} {Pc : Array Value → State → Prop} {Qc : Array Value → State → Outcome → State → Prop} {XC : String → State → State → Prop} {mc ms : Nat} {free : Addr → Prop} {bytes : ByteArray} {maxL : Nat} {ret : Option FieldType}
    (hM : vx_Met l y ws rm Pc Qc XC mc ms free) (hblind : FrameBlind Pc) (hrc : rm.cells = mc) (hrs : rm.slots = ms)
    (hframes : rm.frames + 1 ≤ R.frames) (hlocals : W9 + (maxL + 11) + rm.locals ≤ R.locals)
    (hws : ∀ w ∈ ws, ∀ a' U, s.WarmedH U.vm → w.before a' U = true) (hcode : Cond.code y bytes maxL ret ∈ ws) (hinit : ∀ a' U, s.WarmedH U.vm → (Cond.initialized y.cls).before a' U = true) :
    vx_Back l R p e below s sargs y len W9 (PreOf R mc ms Pc) (PostOf Qc mc ms free) (vx_Post XC mc ms free) := by
  intro m meth c A g ig mk a X hg hsize hdg hW hn hp
  have h1 : (headSpec ws rm).pre.before a A.U = true := atoms_intro fun w hw => hws w hw _ _ X.warmed
  have h2 : (Cond.code y bytes maxL ret).before a A.U = true := hws _ hcode _ _ X.warmed
  have h3 : (Cond.initialized y.cls).before a A.U = true := hinit _ _ X.warmed
  have h4 : A.cells + (headSpec ws rm).room.cells ≤ R.cells := by rw [show (headSpec ws rm).room.cells = mc from hrc]; exact hp.1
  have h5 : A.slots + (headSpec ws rm).room.slots ≤ R.slots := by rw [show (headSpec ws rm).room.slots = ms from hrs]; exact hp.2.1
  have hPc : Pc a (A.U.calling g mk a) := hblind _ _ _ _ hp.2.2
  obtain ⟨U, Ls, c0, s0⟩ := A
  dsimp only [Pt.U, Pt.locs, Pt.cells, Pt.slots] at h1 h2 h3 h4 h5 X hn hPc ⊢
  obtain ⟨methY, cY, hmY, hcY, -, hlY, -, -, -, -⟩ := Cond.code_spec hn h2
  obtain ⟨kY, hkY, -⟩ := className_of_methodNamed hn
  have hinitY : kY.init = .initialized := Cond.initialized_spec (findClass_of_methodNamed hn) hkY h3
  have h : At U g.method c below := by rw [hg]; exact X.here
  have hlocals9 : W9 + (maxL + 11) + (headSpec ws rm).room.locals ≤ R.locals := hlocals
  have happ : (headSpec ws rm).appliesLoose y e.platform (U.calling g mk a) = true :=
    Spec.appliesLoose_calling (g := g) h hdg hn hkY hinitY
      (X.room_calling (g := g) (R' := (headSpec ws rm).room) hsize hmY hcY hframes (by rw [hlY]; omega) h4 h5) h1
  obtain ⟨mid, hmid⟩ := h.above
  have hfr : (U.setTop g).frames = (.java g :: mid) ++ below := by rw [State.frames_setTop' g h.top, hmid]; rfl
  obtain ⟨o, s₂, hsteps, -, hend, hq⟩ := Steps.callFree hM p X.admits X.cas X.clock (acts := []) hfr happ hPc trivial
  have hq' : vx_Q Qc XC mc ms free a (U.calling g mk a) o s₂ := hq
  rw [State.frames_setTop' g h.top] at hend
  obtain ⟨g₀, hg0⟩ := Option.isSome_iff_exists.mp h.top
  obtain ⟨r, hr⟩ := State.topJava?_eq_some.mp hg0
  have hr' : (({ U with heap := s₂.heap, slotsUsed := s₂.slotsUsed } : State).setVm s₂.vm).frames = .java g₀ :: r := hr
  rcases hq' with ⟨hqc, L, hfe, hL⟩ | ⟨q, rfl, E, ce, L, hx, hce, hcv, hcl, hW₂, hsm, hL⟩
  · obtain ⟨⟨v, rfl⟩, hW₂, e2, q2, q3, q4, q5, q6⟩ := id hfe
    have e3 : s₂ = ({ (U.calling g mk a).setFrames s₂.frames with heap := s₂.heap, slotsUsed := s₂.slotsUsed } : State).setVm s₂.vm := by
      have : s₂ = ({ s₂ with vm := (U.calling g mk a).vm } : State).setVm s₂.vm := rfl
      rw [e2] at this
      exact this
    obtain ⟨c₂, i₂, len₂, hc₂, hd₂, hf₂⟩ := hend
    have hW' : U.WarmedH s₂.vm := hW₂
    have hcc : c₂ = c := by
      have h1 : s₂.code? g.method = U.code? g.method := by
        rw [State.code?_eq, State.code?_eq, hW'.alike.method?]
      exact Option.some.inj (hc₂.symm.trans (h1.trans h.code))
    subst hcc
    have hlen : len₂ = len := by rw [hdg] at hd₂; cases hd₂; rfl
    subst hlen
    have hs₂ : s₂ = (({ U with heap := s₂.heap, slotsUsed := s₂.slotsUsed } : State).setVm s₂.vm).setTop { g with pc := g.pc + len₂, stack := v.toList ++ g.stack } := by
      refine e3.trans ?_
      rw [hf₂, State.calling_eq h.top, State.setFrames_setFrames, State.setTop_of_frames _ hr', hr]
      rfl
    have hsame : U.sameButNew ({ U with heap := s₂.heap, slotsUsed := s₂.slotsUsed } : State) L mc ms := by
      refine ⟨?_, q2, q3, q4, q5, q6⟩
      obtain ⟨t, ht, -⟩ := State.frames_cons hr
      show ({ U with heap := s₂.heap, slotsUsed := s₂.slotsUsed } : State) = { U.setFrames U.frames with heap := s₂.heap, slotsUsed := s₂.slotsUsed }
      rw [State.setFrames_self ht]
    subst hg
    refine Or.inl ⟨v, ⟨(({ U with heap := s₂.heap, slotsUsed := s₂.slotsUsed } : State).setVm s₂.vm), Ls ++ L, c0 + mc, s0 + ms⟩,
      ⟨X.admits, X.cas, X.clock, X.frames, X.room, X.hears, X.method, X.code, (X.here.setHeapUsed s₂.heap s₂.slotsUsed).setVm hW'.alike, X.tail, State.WarmedH.trans X.warmed hW', X.limits, X.bytes, X.same.trans (hsame.setVm s.vm)⟩,
      ⟨g, mk, s₂, L, rfl, rfl, hqc, rfl, hL, rfl, rfl⟩, ?_⟩
    show Steps p.tables e below _ ((({ U with heap := s₂.heap, slotsUsed := s₂.slotsUsed } : State).setVm s₂.vm).setTop { g with pc := g.pc + len₂, stack := v.toList ++ g.stack })
    rw [← hs₂]
    exact hsteps
  · obtain ⟨e2, q2, q3, q4, q5, q6⟩ := id hsm
    have e3 : s₂ = ({ (U.calling g mk a).setFrames s₂.frames with heap := s₂.heap, slotsUsed := s₂.slotsUsed } : State).setVm s₂.vm := by
      have : s₂ = ({ s₂ with vm := (U.calling g mk a).vm } : State).setVm s₂.vm := rfl
      rw [e2] at this
      exact this
    have hf₂ : s₂.frames = .throwing q :: .java g :: U.frames.tail := hend
    have hW' : U.WarmedH s₂.vm := hW₂
    have hs₂ : s₂ = ((({ U with heap := s₂.heap, slotsUsed := s₂.slotsUsed } : State).setVm s₂.vm).setTop g).pushFrame (.throwing q) := by
      refine e3.trans ?_
      rw [hf₂, State.calling_eq h.top, State.setFrames_setFrames, State.pushFrame, State.frames_setTop _ hr', State.setTop_of_frames _ hr', State.setFrames_setFrames, hr]
      rfl
    have hsame : U.sameButNew ({ U with heap := s₂.heap, slotsUsed := s₂.slotsUsed } : State) L mc ms := by
      refine ⟨?_, q2, q3, q4, q5, q6⟩
      obtain ⟨t, ht, -⟩ := State.frames_cons hr
      show ({ U with heap := s₂.heap, slotsUsed := s₂.slotsUsed } : State) = { U.setFrames U.frames with heap := s₂.heap, slotsUsed := s₂.slotsUsed }
      rw [State.setFrames_self ht]
    subst hg
    refine Or.inr ⟨q, ⟨(({ U with heap := s₂.heap, slotsUsed := s₂.slotsUsed } : State).setVm s₂.vm), Ls ++ L, c0 + mc, s0 + ms⟩,
      ⟨X.admits, X.cas, X.clock, X.frames, X.room, X.hears, X.method, X.code, (X.here.setHeapUsed s₂.heap s₂.slotsUsed).setVm hW'.alike, X.tail, State.WarmedH.trans X.warmed hW', X.limits, X.bytes, X.same.trans (hsame.setVm s.vm)⟩,
      ⟨g, mk, s₂, L, E, ce, rfl, rfl, hx, hce, hcv, hcl, rfl, hL, rfl, rfl⟩, ?_⟩
    show Steps p.tables e below _ (((({ U with heap := s₂.heap, slotsUsed := s₂.slotsUsed } : State).setVm s₂.vm).setTop g).pushFrame (.throwing q))
    rw [← hs₂]
    exact hsteps
end Payer
section Calls
variable {p : Program} {l : Launch} {e : Env} {R : Room} {s : State} {m : MethodId} {args : Array Value} {below : List Frame} {meth : Method} {c : Code} {T : State} {locs : List Loc} {cells slots : Nat}
theorem vx_callV (X : Stand p l e R s m args below meth c T locs cells slots) (hexec : p.tables.exec = Jvm.exec) {own C : String} {index : Nat} {y : MethodName} {bytes : ByteArray} {maxL : Nat} {ret : Option FieldType}
    (hown : s.vm.findClass own = some m.cls) (hlink : (Cond.methodLink own index y).before args s = true) (hinst : (Cond.instanceMethod y).before args s = true) (hsel : (Cond.selects C y y).before args s = true)
    (hcode : (Cond.code y bytes maxL ret).before args s = true) (hy : y.cls ≠ "java/lang/invoke/MethodHandle" ∧ y.cls ≠ "java/lang/invoke/VarHandle")
    {W9 : Nat} {Pre : Pt → Array Value → Prop} {Post : Pt → Array Value → Option Value → Pt → Prop} {PostX : Pt → Array Value → Addr → Pt → Prop} (hK : vx_Back l R p e below s args y 3 W9 Pre Post PostX)
    {b : Addr} {cellB : Cell} (hcell : T.heap[b]? = some cellB) (hobj : cellB.vm.isStatics = false) (hcls : s.vm.findClass C = some cellB.cls)
    {g : JFrame} (hg : g.method = m) (hsize : g.locals.size = c.maxLocals) {argsL rest : List Value} (hlen : ∀ sig, parseMethodDescriptor y.desc = some sig → argsL.length = sig.parameters.length)
    (hstack : g.stack = argsL.reverse ++ .ref b :: rest) (hW : 2 * g.monitorRoom + (rest.map fun v => v.category).sum ≤ W9) (hdg : decode c.code g.pc = .ok (.invokevirtual index, 3))
    (hpre : ∀ vm₁, s.WarmedH vm₁ → Pre ⟨T.setVm vm₁, locs, cells, slots⟩ (Value.ref b :: argsL).toArray) :
    (∃ (v : Option Value) (vm₁ : Vm) (B : Pt), s.WarmedH vm₁ ∧ Stand p l e R s m args below meth c B.U B.locs B.cells B.slots ∧ Post ⟨T.setVm vm₁, locs, cells, slots⟩ (Value.ref b :: argsL).toArray v B ∧
      ∀ target, Steps p.tables e below (B.U.setTop { g with pc := g.pc + 3, stack := v.toList ++ rest }) target → Steps p.tables e below (T.setTop g) target) ∨
    (∃ (q : Addr) (vm₁ : Vm) (B : Pt), s.WarmedH vm₁ ∧ Stand p l e R s m args below meth c B.U B.locs B.cells B.slots ∧ PostX ⟨T.setVm vm₁, locs, cells, slots⟩ (Value.ref b :: argsL).toArray q B ∧
      Steps p.tables e below (T.setTop g) ((B.U.setTop { g with stack := rest }).pushFrame (.throwing q))) := by
  obtain ⟨mk, methM, hnamed, hmethM, hstM, habM⟩ := Cond.instanceMethod_spec hinst
  obtain ⟨methM', cM, hmethM', -, -, -, -, -, -, hsigM⟩ := Cond.code_spec hnamed hcode
  cases hmethM.symm.trans hmethM'
  obtain ⟨c2, r2, m2, q1, q2, q3, q4, kP, hkP, hkPi⟩ := Cond.selects_spec hsel
  cases hcls.symm.trans q1
  cases (State.methodFound?_of_named hnamed hy).symm.trans q2
  cases hnamed.symm.trans q3
  have hselP : selectMethod e.platform s.vm cellB.cls mk = .method mk := by rw [Launch.admits_selectMethod X.admits]; exact q4
  obtain ⟨vm₁, X₁, hstep₁⟩ := X.invokevirtual hexec hown hlink hnamed hmethM hstM hkP hkPi hy (a := b) (cell := cellB) hcell
    (fun z h => by rw [h] at hobj; cases hobj) hselP hmethM habM hkP hkPi (g := g) hg (argsL := argsL) (rest := rest) (hlen _ hsigM) hstack hdg
  rcases hK m meth c ⟨T.setVm vm₁, locs, cells, slots⟩ { g with stack := rest } (.invokevirtual index) mk (Value.ref b :: argsL).toArray X₁ hg hsize hdg hW (X₁.named hnamed) (hpre vm₁ X₁.warmed) with ⟨v, B, X', hpost, hsteps⟩ | ⟨q, B, X', hpost, hsteps⟩
  · exact Or.inl ⟨v, vm₁, B, X₁.warmed, X', hpost, fun target h => hstep₁ _ fun acts => by rw [doInvoke_state]; exact hsteps.trans h⟩
  · exact Or.inr ⟨q, vm₁, B, X₁.warmed, X', hpost, hstep₁ _ fun acts => by rw [doInvoke_state]; exact hsteps⟩
theorem vx_callS (X : Stand p l e R s m args below meth c T locs cells slots) (hexec : p.tables.exec = Jvm.exec) {own : String} {index : Nat} {y : MethodName} {bytes : ByteArray} {maxL : Nat} {ret : Option FieldType}
    (hown : s.vm.findClass own = some m.cls) (hlink : (Cond.methodLink own index y).before args s = true) (hstat : (Cond.static y).before args s = true) (hinit : (Cond.initialized y.cls).before args s = true)
    (hcode : (Cond.code y bytes maxL ret).before args s = true) (hy : y.cls ≠ "java/lang/invoke/MethodHandle" ∧ y.cls ≠ "java/lang/invoke/VarHandle")
    {W9 : Nat} {Pre : Pt → Array Value → Prop} {Post : Pt → Array Value → Option Value → Pt → Prop} {PostX : Pt → Array Value → Addr → Pt → Prop} (hK : vx_Back l R p e below s args y 3 W9 Pre Post PostX)
    {g : JFrame} (hg : g.method = m) (hsize : g.locals.size = c.maxLocals) {argsL rest : List Value} (hlen : ∀ sig, parseMethodDescriptor y.desc = some sig → argsL.length = sig.parameters.length)
    (hstack : g.stack = argsL.reverse ++ rest) (hW : 2 * g.monitorRoom + (rest.map fun v => v.category).sum ≤ W9) (hdg : decode c.code g.pc = .ok (.invokestatic index, 3))
    (hpre : ∀ vm₁, s.WarmedH vm₁ → Pre ⟨T.setVm vm₁, locs, cells, slots⟩ argsL.toArray) :
    (∃ (v : Option Value) (vm₁ : Vm) (B : Pt), s.WarmedH vm₁ ∧ Stand p l e R s m args below meth c B.U B.locs B.cells B.slots ∧ Post ⟨T.setVm vm₁, locs, cells, slots⟩ argsL.toArray v B ∧
      ∀ target, Steps p.tables e below (B.U.setTop { g with pc := g.pc + 3, stack := v.toList ++ rest }) target → Steps p.tables e below (T.setTop g) target) ∨
    (∃ (q : Addr) (vm₁ : Vm) (B : Pt), s.WarmedH vm₁ ∧ Stand p l e R s m args below meth c B.U B.locs B.cells B.slots ∧ PostX ⟨T.setVm vm₁, locs, cells, slots⟩ argsL.toArray q B ∧
      Steps p.tables e below (T.setTop g) ((B.U.setTop { g with stack := rest }).pushFrame (.throwing q))) := by
  obtain ⟨mk, hnamed⟩ := Cond.code_named hcode
  obtain ⟨methM, cM, hmethM, -, -, -, -, -, -, hsigM⟩ := Cond.code_spec hnamed hcode
  have hstatic : methM.isStatic = true := Cond.static_spec hnamed hmethM hstat
  obtain ⟨kP, hkP, -⟩ := className_of_methodNamed hnamed
  have hinitP : kP.init = .initialized := Cond.initialized_spec (findClass_of_methodNamed hnamed) hkP hinit
  obtain ⟨vm₁, X₁, hstep₁⟩ := X.invokestatic hexec hown hlink hnamed hmethM hstatic hkP hinitP hy (g := g) hg (argsL := argsL) (rest := rest) (hlen _ hsigM) hstack hdg
  rcases hK m meth c ⟨T.setVm vm₁, locs, cells, slots⟩ { g with stack := rest } (.invokestatic index) mk argsL.toArray X₁ hg hsize hdg hW (X₁.named hnamed) (hpre vm₁ X₁.warmed) with ⟨v, B, X', hpost, hsteps⟩ | ⟨q, B, X', hpost, hsteps⟩
  · exact Or.inl ⟨v, vm₁, B, X₁.warmed, X', hpost, fun target h => hstep₁ _ fun acts => by rw [doInvoke_state]; exact hsteps.trans h⟩
  · exact Or.inr ⟨q, vm₁, B, X₁.warmed, X', hpost, hstep₁ _ fun acts => by rw [doInvoke_state]; exact hsteps⟩
end Calls
theorem vx_cls {s : State} {T : State} {vm₁ : Vm} {E : String} {k : ClassId} (hW : s.WarmedH vm₁) (h : (T.setVm vm₁).vm.findClass E = some k) : s.vm.findClass E = some k := by
  have h1 : vm₁.findClass E = some k := h
  rw [hW.alike.findClass] at h1
  exact h1
/-- the method's frame g, with q thrown over it -/
def vx_W (p : Program) (l : Launch) (e : Env) (R : Room) (s : State) (m : MethodId) (args : Array Value) (below : List Frame) (meth : Method) (c : Code) (H : Heap) (locs : List Loc) (cells slots : Nat) (Q : State → Prop) (g : JFrame) (q : Addr) : Prop :=
  ∀ T : State, T.heap = H → Stand p l e R s m args below meth c T locs cells slots → ∃ t, Steps p.tables e below ((T.setTop g).pushFrame (.throwing q)) t ∧ Q t
def vx_Run (p : Program) (l : Launch) (e : Env) (R : Room) (s : State) (m : MethodId) (args : Array Value) (below : List Frame) (meth : Method) (c : Code) (H : Heap) (locs : List Loc) (cells slots mc ms : Nat) (g : JFrame) (rest : List Value) (Qa : State → Outcome → State → Prop) (XC : String → State → State → Prop) (free : Addr → Prop) : Prop :=
  ∀ T : State, T.heap = H → Stand p l e R s m args below meth c T locs cells slots →
    (∃ (v : Option Value) (st₀ t T' : State) (L : List Loc), st₀.heap = H ∧ Stand p l e R s m args below meth c T' (locs ++ L) (cells + mc) (slots + ms) ∧ (∀ q ∈ L, free q.base) ∧ T'.heap = t.heap ∧ T'.vm = t.vm ∧ Qa st₀ (.returned v) t ∧
      Goes p e below T g T' { g with pc := g.pc + 3, stack := v.toList ++ rest }) ∨
    (∃ (q : Addr) (st₀ t T' : State) (L : List Loc) (E : String) (ce : Cell), st₀.heap = H ∧ Stand p l e R s m args below meth c T' (locs ++ L) (cells + mc) (slots + ms) ∧ (∀ z ∈ L, free z.base) ∧ T'.heap = t.heap ∧ T'.vm = t.vm ∧ XC E st₀ t ∧ t.heap[q]? = some ce ∧ ce.vm = .none ∧ s.vm.findClass E = some ce.cls ∧
      Steps p.tables e below (T.setTop g) ((T'.setTop { g with stack := rest }).pushFrame (.throwing q)))
def vx_X {S : Type} (px : S → Prop) (B : String → S → State → Prop) (A : Nat → Prop) : String → State → State → Prop := fun E st t => ∃ u : S, px u ∧ B E u t ∧ va_F A st t
section Runs
variable {p : Program} {l : Launch} {e : Env} {R : Room} {s : State} {m : MethodId} {args : Array Value} {below : List Frame} {meth : Method} {c : Code} {H : Heap} {locs : List Loc} {cells slots : Nat}
variable {y : MethodName} {bytes cc : ByteArray} {maxL nL mc ms n index : Nat} {ret : Option FieldType} {ws : List Cond} {rm : Room} {Pc : Array Value → State → Prop} {Qc : Array Value → State → Outcome → State → Prop} {XC : String → State → State → Prop} {free : Addr → Prop} {Ts : List Cond} {own C : String} {b : Addr} {As rest : List Value} {g : JFrame}
theorem vx_callBack (cb : CallB R s args own index y bytes maxL ret ws rm mc ms n) (hM : vx_Met l y ws rm Pc Qc XC mc ms free) (hbl : FrameBlind Pc) : vx_Back l R p e below s args y 3 8 (PreOf R mc ms Pc) (PostOf Qc mc ms free) (vx_Post XC mc ms free) := by
  obtain ⟨hrc, hrs, hfr, hlo, hws, hcw, -, hini, -⟩ := cb
  exact vx_back (bytes := bytes) (maxL := maxL) (ret := ret) hM hbl hrc hrs hfr hlo hws hcw (fun a' U hW => word_at hW (Or.inl (by first | rfl | simp [Cond.onTables, Cond.keeps, Cond.steady])) hini)
theorem vx_runV (S : CallFix p m c cc nL s args Ts own) (hM : vx_Met l y ws rm Pc Qc XC mc ms free) (cw : CallW R s args own C index y bytes maxL ret ws rm mc ms n) (hp : PreV s H C b Pc As)
    (hg : g.method = m) (hn : As.length = n) (hsize : g.locals.size = nL) (hstack : g.stack = As.reverse ++ .ref b :: rest) (hW : 2 * g.monitorRoom + (rest.map fun v => v.category).sum ≤ 8) (hdg : decode cc g.pc = .ok (.invokevirtual index, 3)) (hf : cells + mc ≤ R.cells ∧ slots + ms ≤ R.slots) :
    vx_Run p l e R s m args below meth c H locs cells slots mc ms g rest (Qc (Value.ref b :: As).toArray) XC free := by
  have hK : vx_Back l R p e below s args y 3 8 (PreOf R mc ms Pc) (PostOf Qc mc ms free) (vx_Post XC mc ms free) := vx_callBack cw.1 hM hp.1
  obtain ⟨⟨-, -, -, -, -, -, hcode, -, hy, hlen, hl⟩, hin, hse⟩ := cw
  obtain ⟨hx, hb, hml, ho, -⟩ := S
  obtain ⟨-, ⟨cellB, hcB, hoB, hclB⟩, hPc⟩ := hp
  intro T hT X
  rcases vx_callV X hx (C := C) (bytes := bytes) (maxL := maxL) (ret := ret) ho hl hin hse hcode hy hK (by rw [hT]; exact hcB) hoB hclB hg (hsize.trans hml.symm) (argsL := As) (rest := rest) (fun sig h => hn.trans (hlen sig h)) hstack hW (by rw [hb]; exact hdg)
    (fun vm₁ hW₁ => ⟨hf.1, hf.2, hPc (T.setVm vm₁) hT hW₁⟩) with ⟨v, vm₁, ⟨U', l2, c2, s2⟩, hW₁, X', ⟨g', mk, t, L, e1, e2, hq, h1, hL, h2, h3⟩, st⟩ | ⟨q, vm₁, ⟨U', l2, c2, s2⟩, hW₁, X', ⟨g', mk, t, L, E, ce, e1, e2, hq, hce, hcv, hcl, h1, hL, h2, h3⟩, st⟩
  · dsimp only [Pt.U, Pt.locs, Pt.cells, Pt.slots] at X' e1 e2 h1 h2 h3 st
    subst h1; subst h2; subst h3
    exact Or.inl ⟨v, (T.setVm vm₁).calling g' mk (Value.ref b :: As).toArray, t, U', L, hT, X', hL, e1, e2, hq, st⟩
  · dsimp only [Pt.U, Pt.locs, Pt.cells, Pt.slots] at X' e1 e2 h1 h2 h3 st hcl
    subst h1; subst h2; subst h3
    exact Or.inr ⟨q, (T.setVm vm₁).calling g' mk (Value.ref b :: As).toArray, t, U', L, E, ce, hT, X', hL, e1, e2, hq, hce, hcv, vx_cls hW₁ hcl, st⟩
theorem vx_runS (S : CallFix p m c cc nL s args Ts own) (hM : vx_Met l y ws rm Pc Qc XC mc ms free) (cw : CallB R s args own index y bytes maxL ret ws rm mc ms n ∧ (Cond.static y).before args s = true) (hp : PreS s H Pc As)
    (hg : g.method = m) (hn : As.length = n) (hsize : g.locals.size = nL) (hstack : g.stack = As.reverse ++ rest) (hW : 2 * g.monitorRoom + (rest.map fun v => v.category).sum ≤ 8) (hdg : decode cc g.pc = .ok (.invokestatic index, 3)) (hf : cells + mc ≤ R.cells ∧ slots + ms ≤ R.slots) :
    vx_Run p l e R s m args below meth c H locs cells slots mc ms g rest (Qc As.toArray) XC free := by
  have hK : vx_Back l R p e below s args y 3 8 (PreOf R mc ms Pc) (PostOf Qc mc ms free) (vx_Post XC mc ms free) := vx_callBack cw.1 hM hp.1
  obtain ⟨⟨-, -, -, -, -, -, hcode, hini, hy, hlen, hl⟩, hstt⟩ := cw
  obtain ⟨hx, hb, hml, ho, -⟩ := S
  intro T hT X
  rcases vx_callS X hx (bytes := bytes) (maxL := maxL) (ret := ret) ho hl hstt hini hcode hy hK hg (hsize.trans hml.symm) (argsL := As) (rest := rest) (fun sig h => hn.trans (hlen sig h)) hstack hW (by rw [hb]; exact hdg)
    (fun vm₁ hW₁ => ⟨hf.1, hf.2, hp.2 (T.setVm vm₁) hT hW₁⟩) with ⟨v, vm₁, ⟨U', l2, c2, s2⟩, hW₁, X', ⟨g', mk, t, L, e1, e2, hq, h1, hL, h2, h3⟩, st⟩ | ⟨q, vm₁, ⟨U', l2, c2, s2⟩, hW₁, X', ⟨g', mk, t, L, E, ce, e1, e2, hq, hce, hcv, hcl, h1, hL, h2, h3⟩, st⟩
  · dsimp only [Pt.U, Pt.locs, Pt.cells, Pt.slots] at X' e1 e2 h1 h2 h3 st
    subst h1; subst h2; subst h3
    exact Or.inl ⟨v, (T.setVm vm₁).calling g' mk As.toArray, t, U', L, hT, X', hL, e1, e2, hq, st⟩
  · dsimp only [Pt.U, Pt.locs, Pt.cells, Pt.slots] at X' e1 e2 h1 h2 h3 st hcl
    subst h1; subst h2; subst h3
    exact Or.inr ⟨q, (T.setVm vm₁).calling g' mk As.toArray, t, U', L, E, ce, hT, X', hL, e1, e2, hq, hce, hcv, vx_cls hW₁ hcl, st⟩
end Runs
section Rows
variable {p : Program} {l : Launch} {e : Env} {R : Room} {s : State} {m : MethodId} {args : Array Value} {below : List Frame} {meth : Method} {c : Code} {H : Heap} {locs : List Loc} {cells slots : Nat} {Q : State → Prop}
variable {mc ms : Nat} {free : Addr → Prop} {A0 A1 : Nat → Prop} {H0 : Heap} {a : Array Value} {pc : Nat} {ls : Array Slot} {st0 rest : List Value}
theorem vx_keep {st₀ t T' : State} {L : List Loc} (h0 : st₀.heap = H) (e1 : T'.heap = t.heap) (hS : va_S A0 H0 H locs) (hA : ∀ q, q < H.size → A1 q → A0 q) (hf : ∀ q, free q → A0 q) (hL : ∀ q ∈ L, free q.base) (hF : va_F A1 st₀ t) :
    H.size ≤ T'.heap.size ∧ (∀ q : Nat, q < H.size → ¬ A1 q → T'.heap[q]? = H[q]?) ∧ va_S A0 H0 T'.heap (locs ++ L) := by
  obtain ⟨hz, hk⟩ := hF
  rw [h0] at hz hk
  exact ⟨by rw [e1]; exact hz, fun q h1 h2 => by rw [e1]; exact hk q h1 h2,
    ⟨Nat.le_trans hS.1 (by rw [e1]; exact hz), fun q h1 h2 => by rw [e1, hk q (Nat.lt_of_lt_of_le h1 hS.1) (fun z => h2 (hA q (Nat.lt_of_lt_of_le h1 hS.1) z))]; exact hS.2.1 q h1 h2, fun q hq => by
      rcases List.mem_append.mp hq with h | h
      · exact hS.2.2 q h
      · exact hf _ (hL q h)⟩⟩
theorem vx_calli {S SX : Type} {post : Int32 → S → Prop} {px : SX → Prop} {B : S → State → Prop} {BX : String → SX → State → Prop} {AX : Nat → Prop} (hr : vx_Run p l e R s m args below meth c H locs cells slots mc ms (F0 m pc ls st0) rest (va_Qi post B A1 a) (vx_X px BX AX) free) (hS : va_S A0 H0 H locs) (hA : ∀ q, q < H.size → A1 q → A0 q) (hf : ∀ q, free q → A0 q) (hAX : ∀ q, q < H.size → AX q → A0 q)
    (kx : ∀ (E : String) (ce : Cell) (q9 : Addr) (u : SX) (t : State) (H1 : Heap) (locs1 : List Loc), t.heap = H1 → s.vm.Alike t.vm → px u → BX E u t → H.size ≤ H1.size → (∀ q : Nat, q < H.size → ¬ AX q → H1[q]? = H[q]?) → va_S A0 H0 H1 locs1 → H1[q9]? = some ce → ce.vm = .none → s.vm.findClass E = some ce.cls → vx_W p l e R s m args below meth c H1 locs1 (cells + mc) (slots + ms) Q (F0 m pc ls rest) q9)
    (kk : ∀ (r : Int32) (u : S) (t : State) (H1 : Heap) (locs1 : List Loc), t.heap = H1 → s.vm.Alike t.vm → post r u → B u t → H.size ≤ H1.size → (∀ q : Nat, q < H.size → ¬ A1 q → H1[q]? = H[q]?) → va_S A0 H0 H1 locs1 → W p l e R s m args below meth c H1 locs1 (cells + mc) (slots + ms) Q (F0 m (pc + 3) ls (.int r :: rest))) : W p l e R s m args below meth c H locs cells slots Q (F0 m pc ls st0) := by
  intro T hT X
  rcases hr T hT X with ⟨v, st₀, t, T', L, h0, X', hL, e1, e2, ⟨⟨r, u, hv, hp, hb⟩, hF⟩, st⟩ | ⟨q, st₀, t, T', L, E, ce, h0, X', hL, e1, e2, ⟨u, hp, hb, hF⟩, hce, hcv, hcl, st⟩
  · cases hv
    obtain ⟨k1, k2, k3⟩ := vx_keep h0 e1 hS hA hf hL hF
    obtain ⟨t2, a1, b1⟩ := kk r u t T'.heap (locs ++ L) e1.symm (by rw [← e2]; exact X'.warmed.alike) hp hb k1 k2 k3 T' rfl X'
    exact ⟨t2, st t2 a1, b1⟩
  · obtain ⟨k1, k2, k3⟩ := vx_keep h0 e1 hS hAX hf hL hF
    obtain ⟨t2, a1, b1⟩ := kx E ce q u t T'.heap (locs ++ L) e1.symm (by rw [← e2]; exact X'.warmed.alike) hp hb k1 k2 k3 (by rw [e1]; exact hce) hcv hcl T' rfl X'
    exact ⟨t2, st.trans a1, b1⟩
theorem vx_calll {S SX : Type} {post : Int64 → S → Prop} {px : SX → Prop} {B : S → State → Prop} {BX : String → SX → State → Prop} {AX : Nat → Prop} (hr : vx_Run p l e R s m args below meth c H locs cells slots mc ms (F0 m pc ls st0) rest (va_Ql post B A1 a) (vx_X px BX AX) free) (hS : va_S A0 H0 H locs) (hA : ∀ q, q < H.size → A1 q → A0 q) (hf : ∀ q, free q → A0 q) (hAX : ∀ q, q < H.size → AX q → A0 q)
    (kx : ∀ (E : String) (ce : Cell) (q9 : Addr) (u : SX) (t : State) (H1 : Heap) (locs1 : List Loc), t.heap = H1 → s.vm.Alike t.vm → px u → BX E u t → H.size ≤ H1.size → (∀ q : Nat, q < H.size → ¬ AX q → H1[q]? = H[q]?) → va_S A0 H0 H1 locs1 → H1[q9]? = some ce → ce.vm = .none → s.vm.findClass E = some ce.cls → vx_W p l e R s m args below meth c H1 locs1 (cells + mc) (slots + ms) Q (F0 m pc ls rest) q9)
    (kk : ∀ (r : Int64) (u : S) (t : State) (H1 : Heap) (locs1 : List Loc), t.heap = H1 → s.vm.Alike t.vm → post r u → B u t → H.size ≤ H1.size → (∀ q : Nat, q < H.size → ¬ A1 q → H1[q]? = H[q]?) → va_S A0 H0 H1 locs1 → W p l e R s m args below meth c H1 locs1 (cells + mc) (slots + ms) Q (F0 m (pc + 3) ls (.long r :: rest))) : W p l e R s m args below meth c H locs cells slots Q (F0 m pc ls st0) := by
  intro T hT X
  rcases hr T hT X with ⟨v, st₀, t, T', L, h0, X', hL, e1, e2, ⟨⟨r, u, hv, hp, hb⟩, hF⟩, st⟩ | ⟨q, st₀, t, T', L, E, ce, h0, X', hL, e1, e2, ⟨u, hp, hb, hF⟩, hce, hcv, hcl, st⟩
  · cases hv
    obtain ⟨k1, k2, k3⟩ := vx_keep h0 e1 hS hA hf hL hF
    obtain ⟨t2, a1, b1⟩ := kk r u t T'.heap (locs ++ L) e1.symm (by rw [← e2]; exact X'.warmed.alike) hp hb k1 k2 k3 T' rfl X'
    exact ⟨t2, st t2 a1, b1⟩
  · obtain ⟨k1, k2, k3⟩ := vx_keep h0 e1 hS hAX hf hL hF
    obtain ⟨t2, a1, b1⟩ := kx E ce q u t T'.heap (locs ++ L) e1.symm (by rw [← e2]; exact X'.warmed.alike) hp hb k1 k2 k3 (by rw [e1]; exact hce) hcv hcl T' rfl X'
    exact ⟨t2, st.trans a1, b1⟩
theorem vx_callf {S SX : Type} {post : UInt32 → S → Prop} {px : SX → Prop} {B : S → State → Prop} {BX : String → SX → State → Prop} {AX : Nat → Prop} (hr : vx_Run p l e R s m args below meth c H locs cells slots mc ms (F0 m pc ls st0) rest (va_Qf post B A1 a) (vx_X px BX AX) free) (hS : va_S A0 H0 H locs) (hA : ∀ q, q < H.size → A1 q → A0 q) (hf : ∀ q, free q → A0 q) (hAX : ∀ q, q < H.size → AX q → A0 q)
    (kx : ∀ (E : String) (ce : Cell) (q9 : Addr) (u : SX) (t : State) (H1 : Heap) (locs1 : List Loc), t.heap = H1 → s.vm.Alike t.vm → px u → BX E u t → H.size ≤ H1.size → (∀ q : Nat, q < H.size → ¬ AX q → H1[q]? = H[q]?) → va_S A0 H0 H1 locs1 → H1[q9]? = some ce → ce.vm = .none → s.vm.findClass E = some ce.cls → vx_W p l e R s m args below meth c H1 locs1 (cells + mc) (slots + ms) Q (F0 m pc ls rest) q9)
    (kk : ∀ (r : UInt32) (u : S) (t : State) (H1 : Heap) (locs1 : List Loc), t.heap = H1 → s.vm.Alike t.vm → post r u → B u t → H.size ≤ H1.size → (∀ q : Nat, q < H.size → ¬ A1 q → H1[q]? = H[q]?) → va_S A0 H0 H1 locs1 → W p l e R s m args below meth c H1 locs1 (cells + mc) (slots + ms) Q (F0 m (pc + 3) ls (.float r :: rest))) : W p l e R s m args below meth c H locs cells slots Q (F0 m pc ls st0) := by
  intro T hT X
  rcases hr T hT X with ⟨v, st₀, t, T', L, h0, X', hL, e1, e2, ⟨⟨r, u, hv, hp, hb⟩, hF⟩, st⟩ | ⟨q, st₀, t, T', L, E, ce, h0, X', hL, e1, e2, ⟨u, hp, hb, hF⟩, hce, hcv, hcl, st⟩
  · cases hv
    obtain ⟨k1, k2, k3⟩ := vx_keep h0 e1 hS hA hf hL hF
    obtain ⟨t2, a1, b1⟩ := kk r u t T'.heap (locs ++ L) e1.symm (by rw [← e2]; exact X'.warmed.alike) hp hb k1 k2 k3 T' rfl X'
    exact ⟨t2, st t2 a1, b1⟩
  · obtain ⟨k1, k2, k3⟩ := vx_keep h0 e1 hS hAX hf hL hF
    obtain ⟨t2, a1, b1⟩ := kx E ce q u t T'.heap (locs ++ L) e1.symm (by rw [← e2]; exact X'.warmed.alike) hp hb k1 k2 k3 (by rw [e1]; exact hce) hcv hcl T' rfl X'
    exact ⟨t2, st.trans a1, b1⟩
theorem vx_calld {S SX : Type} {post : UInt64 → S → Prop} {px : SX → Prop} {B : S → State → Prop} {BX : String → SX → State → Prop} {AX : Nat → Prop} (hr : vx_Run p l e R s m args below meth c H locs cells slots mc ms (F0 m pc ls st0) rest (va_Qd post B A1 a) (vx_X px BX AX) free) (hS : va_S A0 H0 H locs) (hA : ∀ q, q < H.size → A1 q → A0 q) (hf : ∀ q, free q → A0 q) (hAX : ∀ q, q < H.size → AX q → A0 q)
    (kx : ∀ (E : String) (ce : Cell) (q9 : Addr) (u : SX) (t : State) (H1 : Heap) (locs1 : List Loc), t.heap = H1 → s.vm.Alike t.vm → px u → BX E u t → H.size ≤ H1.size → (∀ q : Nat, q < H.size → ¬ AX q → H1[q]? = H[q]?) → va_S A0 H0 H1 locs1 → H1[q9]? = some ce → ce.vm = .none → s.vm.findClass E = some ce.cls → vx_W p l e R s m args below meth c H1 locs1 (cells + mc) (slots + ms) Q (F0 m pc ls rest) q9)
    (kk : ∀ (r : UInt64) (u : S) (t : State) (H1 : Heap) (locs1 : List Loc), t.heap = H1 → s.vm.Alike t.vm → post r u → B u t → H.size ≤ H1.size → (∀ q : Nat, q < H.size → ¬ A1 q → H1[q]? = H[q]?) → va_S A0 H0 H1 locs1 → W p l e R s m args below meth c H1 locs1 (cells + mc) (slots + ms) Q (F0 m (pc + 3) ls (.double r :: rest))) : W p l e R s m args below meth c H locs cells slots Q (F0 m pc ls st0) := by
  intro T hT X
  rcases hr T hT X with ⟨v, st₀, t, T', L, h0, X', hL, e1, e2, ⟨⟨r, u, hv, hp, hb⟩, hF⟩, st⟩ | ⟨q, st₀, t, T', L, E, ce, h0, X', hL, e1, e2, ⟨u, hp, hb, hF⟩, hce, hcv, hcl, st⟩
  · cases hv
    obtain ⟨k1, k2, k3⟩ := vx_keep h0 e1 hS hA hf hL hF
    obtain ⟨t2, a1, b1⟩ := kk r u t T'.heap (locs ++ L) e1.symm (by rw [← e2]; exact X'.warmed.alike) hp hb k1 k2 k3 T' rfl X'
    exact ⟨t2, st t2 a1, b1⟩
  · obtain ⟨k1, k2, k3⟩ := vx_keep h0 e1 hS hAX hf hL hF
    obtain ⟨t2, a1, b1⟩ := kx E ce q u t T'.heap (locs ++ L) e1.symm (by rw [← e2]; exact X'.warmed.alike) hp hb k1 k2 k3 (by rw [e1]; exact hce) hcv hcl T' rfl X'
    exact ⟨t2, st.trans a1, b1⟩
theorem vx_callv {S SX : Type} {post : S → Prop} {px : SX → Prop} {B : S → State → Prop} {BX : String → SX → State → Prop} {AX : Nat → Prop} (hr : vx_Run p l e R s m args below meth c H locs cells slots mc ms (F0 m pc ls st0) rest (va_Qv post B A1 a) (vx_X px BX AX) free) (hS : va_S A0 H0 H locs) (hA : ∀ q, q < H.size → A1 q → A0 q) (hf : ∀ q, free q → A0 q) (hAX : ∀ q, q < H.size → AX q → A0 q)
    (kx : ∀ (E : String) (ce : Cell) (q9 : Addr) (u : SX) (t : State) (H1 : Heap) (locs1 : List Loc), t.heap = H1 → s.vm.Alike t.vm → px u → BX E u t → H.size ≤ H1.size → (∀ q : Nat, q < H.size → ¬ AX q → H1[q]? = H[q]?) → va_S A0 H0 H1 locs1 → H1[q9]? = some ce → ce.vm = .none → s.vm.findClass E = some ce.cls → vx_W p l e R s m args below meth c H1 locs1 (cells + mc) (slots + ms) Q (F0 m pc ls rest) q9)
    (kk : ∀ (u : S) (t : State) (H1 : Heap) (locs1 : List Loc), t.heap = H1 → s.vm.Alike t.vm → post u → B u t → H.size ≤ H1.size → (∀ q : Nat, q < H.size → ¬ A1 q → H1[q]? = H[q]?) → va_S A0 H0 H1 locs1 → W p l e R s m args below meth c H1 locs1 (cells + mc) (slots + ms) Q (F0 m (pc + 3) ls (rest))) : W p l e R s m args below meth c H locs cells slots Q (F0 m pc ls st0) := by
  intro T hT X
  rcases hr T hT X with ⟨v, st₀, t, T', L, h0, X', hL, e1, e2, ⟨⟨u, hv, hp, hb⟩, hF⟩, st⟩ | ⟨q, st₀, t, T', L, E, ce, h0, X', hL, e1, e2, ⟨u, hp, hb, hF⟩, hce, hcv, hcl, st⟩
  · cases hv
    obtain ⟨k1, k2, k3⟩ := vx_keep h0 e1 hS hA hf hL hF
    obtain ⟨t2, a1, b1⟩ := kk u t T'.heap (locs ++ L) e1.symm (by rw [← e2]; exact X'.warmed.alike) hp hb k1 k2 k3 T' rfl X'
    exact ⟨t2, st t2 a1, b1⟩
  · obtain ⟨k1, k2, k3⟩ := vx_keep h0 e1 hS hAX hf hL hF
    obtain ⟨t2, a1, b1⟩ := kx E ce q u t T'.heap (locs ++ L) e1.symm (by rw [← e2]; exact X'.warmed.alike) hp hb k1 k2 k3 (by rw [e1]; exact hce) hcv hcl T' rfl X'
    exact ⟨t2, st.trans a1, b1⟩
/-- caught by the row x of this method's table; the rows ahead don't take it -/
theorem vx_catch {own name : String} {E : String} {ce : Cell} {q : Addr} (hown : s.vm.findClass own = some m.cls) (pre : List ExceptionTableEntry) (x : ExceptionTableEntry) (suf : List ExceptionTableEntry) (hsplit : c.exceptionTable.toList = pre ++ x :: suf)
    (hpass : ∀ z ∈ pre, covers z pc = false ∨ (z.catchType ≠ 0 ∧ ∃ nm : String, (Cond.classLink own z.catchType nm).before args s = true ∧ va_Nc E nm s)) (hx : covers x pc = true) (h0 : x.catchType ≠ 0)
    (hlink : (Cond.classLink own x.catchType name).before args s = true) (hcast : (Cond.castable E name).before args s = true) (hcell : H[q]? = some ce) (hv : ce.vm = .none) (hcl : s.vm.findClass E = some ce.cls)
    (kk : W p l e R s m args below meth c H locs cells slots Q (F0 m x.handlerPc ls [.ref q])) : vx_W p l e R s m args below meth c H locs cells slots Q (F0 m pc ls rest) q := by
  intro T hT X
  have hpl : e.platform.magicAccessors = ({} : Platform).magicAccessors := by rw [X.admits.platform]
  obtain ⟨c3, c4, hc3, hc4, hasg⟩ := Cond.castable_spec hcast
  cases Option.some.inj (hc3.symm.trans hcl)
  obtain ⟨c5, hc5, hcl5⟩ := Cond.classLink_spec hown hlink e.platform hpl
  cases Option.some.inj (hc4.symm.trans hc5)
  obtain ⟨vm', X', st⟩ := X.thenCaughtThrough q (g := F0 m pc ls rest) rfl (Steps.refl _) (by rw [hT]; exact hcell) (by rw [hv]; rfl) (by obtain ⟨k9, h9, -⟩ := Vm.findClass_spec hcl; exact ⟨k9, h9⟩) pre x suf hsplit
    (fun z hz => by
      rcases hpass z hz with h | ⟨hz0, nm, hl1, hn1⟩
      · exact Or.inl h
      · obtain ⟨c6, hc6, hcl6⟩ := Cond.classLink_spec hown hl1 e.platform hpl
        obtain ⟨a8, b8, h1, h2, h3⟩ := hn1
        cases Option.some.inj (h1.symm.trans hcl)
        cases Option.some.inj (h2.symm.trans hc6)
        exact Or.inr ⟨hz0, _, hcl6, h3⟩) hx (Or.inr ⟨h0, c4, hcl5, hasg⟩)
  obtain ⟨t, a1, b1⟩ := kk (T.setVm vm') hT X'
  exact ⟨t, st.trans a1, b1⟩
end Rows
section Ends
variable {p : Program} {l : Launch} {e : Env} {R : Room} {s : State} {m : MethodId} {args : Array Value} {below : List Frame} {meth : Method} {c : Code} {H : Heap} {locs : List Loc} {cells slots : Nat} {Q : State → Prop}
variable {mc ms : Nat} {free : Addr → Prop} {A0 A1 : Nat → Prop} {H0 : Heap} {a : Array Value} {ls : Array Slot} {st0 rest : List Value}
variable {Qc : Array Value → State → Outcome → State → Prop} {XC : String → State → State → Prop}
/-- what a body that may throw owes at its end -/
def vx_MQ (below : List Frame) (Qc : Array Value → State → Outcome → State → Prop) (XC : String → State → State → Prop) (a : Array Value) (s : State) (mc ms : Nat) (free : Addr → Prop) : State → Prop := fun t =>
  ∃ o, t.status = .running ∧ Ended t below o ∧ vx_Q Qc XC mc ms free a s o t
theorem vx_ret {g : JFrame} {mc ms : Nat} (k : W p l e R s m args below meth c H locs cells slots (MQ below Qc args s mc ms free) g) : W p l e R s m args below meth c H locs cells slots (vx_MQ below Qc XC args s mc ms free) g := by
  intro T hT X
  obtain ⟨t, a1, o, b1, b2, b3, b4⟩ := k T hT X
  exact ⟨t, a1, o, b1, b2, Or.inl ⟨b3, b4⟩⟩
/-- not caught here: it goes on to the caller -/
theorem vx_widen {g : JFrame} {q : Addr} {k n : Nat} (h1 : cells ≤ k) (h2 : slots ≤ n) (kk : vx_W p l e R s m args below meth c H locs k n Q g q) : vx_W p l e R s m args below meth c H locs cells slots Q g q := fun T hT X => kk T hT (stand_widen X h1 h2)
theorem vx_out {pc : Nat} {E : String} {ce : Cell} {q : Addr} {mc ms : Nat} (hout : ∀ x ∈ c.exceptionTable.toList, covers x pc = false) (hlocks : meth.locks = false) (hcell : H[q]? = some ce) (hv : ce.vm = .none) (hcl : s.vm.findClass E = some ce.cls)
    (hx : ∀ t : State, t.heap = H → s.vm.Alike t.vm → XC E s t) (hf : ∀ z ∈ locs, free z.base) (hc : cells ≤ mc) (hs : slots ≤ ms) :
    vx_W p l e R s m args below meth c H locs cells slots (vx_MQ below Qc XC args s mc ms free) (F0 m pc ls rest) q := by
  intro T hT X
  obtain ⟨st1, hrun, hend, hW, hsm⟩ := X.leaveThrown q (g := F0 m pc ls rest) rfl rfl rfl hout hlocks
  have hcell9 : (T.setFrames (.throwing q :: below)).heap[q]? = some ce := by
    show T.heap[q]? = some ce
    rw [hT]; exact hcell
  exact ⟨_, st1, .threw q, hrun, hend, Or.inr ⟨q, rfl, E, ce, locs, hx _ hT hW.alike, hcell9, hv, hcl, hW, hsm.mono hc hs, hf⟩⟩
theorem vx_frame {U : State} {k n : Nat} (h : s.sameButNew ({ U with vm := s.vm } : State) locs k n) : s.heap.size ≤ U.heap.size ∧ ∀ q : Nat, q < s.heap.size → (∀ z ∈ locs, z.base ≠ q) → U.heap[q]? = s.heap[q]? := by
  obtain ⟨-, h2, -, -, -, h6⟩ := h
  refine ⟨h2, fun q hq hz => ?_⟩
  obtain ⟨c9, e1, e2, e3, e4⟩ := h6 q _ (Array.getElem?_eq_getElem hq)
  have hs : c9.slots = (s.heap[q]).slots := Array.ext_getElem? fun i => e4 i fun hm => hz _ hm rfl
  have h9 : c9 = s.heap[q] := by
    rw [hs] at e2
    exact e2
  have e5 : U.heap[q]? = some c9 := e1
  rw [e5, h9, Array.getElem?_eq_getElem hq]
/-- the words of a throw but the four that speak of the heap -/
def vx_no (w : Cond) : Bool := decide (w ≠ .isRef (.static Bundle.tN "UNASSIGNED_STACK" Bundle.steD)) && decide (w ≠ .isRef (.static Bundle.tN "SUPPRESSED_SENTINEL" Bundle.listD)) && decide (w ≠ .laysStatic Bundle.tN "UNASSIGNED_STACK" Bundle.steD) && decide (w ≠ .laysStatic Bundle.tN "SUPPRESSED_SENTINEL" Bundle.listD)
def vx_at0 (own : String) (ic : Nat) (X : String) (names : List String) : List Cond := (Bundle.ownAtoms0 own ic X names).filter vx_no
def vx_atS (own : String) (ic : Nat) (X : String) (names : List String) : List Cond := (Bundle.ownAtoms own ic X names).filter vx_no
/-- a word that the tables alone decide, or a good one -/
def vx_ot (w : Cond) : Bool := w.onTables || goodWord w
theorem vx_ot_at {args a' : Array Value} {s U : State} {w : Cond} (hW : s.WarmedH U.vm) (hvm : s.vm = U.vm) (hg : vx_ot w = true) (h : w.before args s = true) : w.before a' U = true := by
  simp only [vx_ot, Bool.or_eq_true] at hg
  rcases hg with hg | hg
  · exact va_tabs hg hvm h
  · exact word_at hW (good_of_word hg) h
/-- a list's words: the good ones out of the method's own list, the others by premises of their own -/
theorem vx_hat {args : Array Value} {s : State} {L B : List Cond} (h1 : ∀ w ∈ L.filter goodWord, w.before args s = true) (h2 : ∀ w ∈ L.filter (fun w => !goodWord w), w ∈ B) (h3 : ∀ w ∈ B, w.before args s = true) : ∀ w ∈ L, w.before args s = true := by
  intro w hw
  by_cases g : goodWord w = true
  · exact h1 w (List.mem_filter.mpr ⟨hw, g⟩)
  · refine h3 w (h2 w (List.mem_filter.mpr ⟨hw, ?_⟩))
    show (!goodWord w) = true
    cases hgw : goodWord w
    · rfl
    · exact absurd hgw g
theorem vx_c {args : Array Value} {s : State} {w : Cond} {B : List Cond} (h : w.before args s = true) (t : ∀ w ∈ B, w.before args s = true) : ∀ w' ∈ w :: B, w'.before args s = true := fun w' h' => (List.mem_cons.mp h').elim (fun e => by rw [e]; exact h) (t w')
theorem vx_n {args : Array Value} {s : State} : ∀ w ∈ ([] : List Cond), w.before args s = true := fun _ h => nomatch h
theorem vx_own {args : Array Value} {s : State} {L : List Cond} (h1 : ∀ w ∈ L.filter vx_no, w.before args s = true)
    (hU : (Cond.isRef (.static Bundle.tN "UNASSIGNED_STACK" Bundle.steD)).before args s = true) (hN : (Cond.isRef (.static Bundle.tN "SUPPRESSED_SENTINEL" Bundle.listD)).before args s = true)
    (lU : (Cond.laysStatic Bundle.tN "UNASSIGNED_STACK" Bundle.steD).before args s = true) (lN : (Cond.laysStatic Bundle.tN "SUPPRESSED_SENTINEL" Bundle.listD).before args s = true) : ∀ w ∈ L, w.before args s = true := by
  intro w hw
  by_cases e1 : w = .isRef (.static Bundle.tN "UNASSIGNED_STACK" Bundle.steD)
  · rw [e1]; exact hU
  · by_cases e2 : w = .isRef (.static Bundle.tN "SUPPRESSED_SENTINEL" Bundle.listD)
    · rw [e2]; exact hN
    · by_cases e3 : w = .laysStatic Bundle.tN "UNASSIGNED_STACK" Bundle.steD
      · rw [e3]; exact lU
      · by_cases e4 : w = .laysStatic Bundle.tN "SUPPRESSED_SENTINEL" Bundle.listD
        · rw [e4]; exact lN
        · exact h1 w (List.mem_filter.mpr ⟨hw, by unfold vx_no; rw [decide_eq_true e1, decide_eq_true e2, decide_eq_true e3, decide_eq_true e4]; rfl⟩)
/-- where a static field lies, its class's statics cell in H -/
def vx_L (C n d : String) (A : Nat → Prop) (U : State) (H : Heap) : Prop := ∃ (c : ClassId) (k : Class) (i : Nat) (f : Field) (a : Nat) (cell : Cell), U.vm.findClass C = some c ∧ U.fieldFound? C n d = some (c, k, i, f) ∧ f.isStatic = true ∧ k.statics = some a ∧ H[a]? = some cell ∧ cell.vm.isStatics = true ∧ cell.cls = c ∧ f.slot < cell.slots.size ∧ k.staticTypes[f.slot]? = some f.type ∧ ¬ A a
theorem vx_L.moved {C n d : String} {A : Nat → Prop} {u U : State} {H : Heap} (hvm : u.vm.Alike U.vm) (h : vx_L C n d A u H) : vx_L C n d A U H := by
  obtain ⟨c, k, i, f, a, cell, h1, h2, h3, h4, h5, h6, h7, h8, h9, h10⟩ := h
  obtain ⟨k', hi', he⟩ := State.fieldFound?_setVm hvm h2
  exact ⟨c, k', i, f, a, cell, by rw [hvm.findClass]; exact h1, hi', h3, by rw [he]; exact h4, h5, h6, h7, h8, by rw [he]; exact h9, h10⟩
theorem vx_L.kept {C n d : String} {A : Nat → Prop} {U : State} {H H1 : Heap} (h : vx_L C n d A U H) (hq : ∀ a : Nat, a < H.size → ¬ A a → H1[a]? = H[a]?) : vx_L C n d A U H1 := by
  obtain ⟨c, k, i, f, a, cell, h1, h2, h3, h4, h5, h6, h7, h8, h9, h10⟩ := h
  exact ⟨c, k, i, f, a, cell, h1, h2, h3, h4, by rw [hq a (Array.getElem?_eq_some_iff.mp h5).1 h10]; exact h5, h6, h7, h8, h9, h10⟩
theorem vx_L.narrow {C n d : String} {A B : Nat → Prop} {U : State} {H : Heap} (h : vx_L C n d A U H) (hAB : ∀ q, B q → A q) : vx_L C n d B U H := by
  obtain ⟨c, k, i, f, a, cell, h1, h2, h3, h4, h5, h6, h7, h8, h9, h10⟩ := h
  exact ⟨c, k, i, f, a, cell, h1, h2, h3, h4, h5, h6, h7, h8, h9, fun z => h10 (hAB _ z)⟩
theorem vx_L.word {C n d : String} {A : Nat → Prop} {s : State} {args : Array Value} (h : vx_L C n d A s s.heap) : (Cond.laysStatic C n d).before args s = true := by
  obtain ⟨c, k, i, f, a, cell, h1, h2, h3, h4, h5, h6, h7, h8, h9, -⟩ := h
  show (Cond.laysStatic C n d).holds args s none s [] = true
  exact Cond.laysStatic_of h1 h2 h3 h4 h5 h6 h7 h8 h9
/-- .. and what it holds: null or some reference -/
def vx_Zq (C n d : String) (A : Nat → Prop) (U : State) (H : Heap) : Prop := va_Zq C n d A U H ∧ vx_L C n d A U H
theorem vx_Zq.moved {C n d : String} {A : Nat → Prop} {u U : State} {H : Heap} (hvm : u.vm.Alike U.vm) (h : vx_Zq C n d A u H) : vx_Zq C n d A U H := ⟨va_Zq.moved hvm h.1, vx_L.moved hvm h.2⟩
theorem vx_Zq.kept {C n d : String} {A : Nat → Prop} {U : State} {H H1 : Heap} (h : vx_Zq C n d A U H) (hq : ∀ a : Nat, a < H.size → ¬ A a → H1[a]? = H[a]?) : vx_Zq C n d A U H1 := ⟨va_Zq.kept h.1 hq, vx_L.kept h.2 hq⟩
theorem vx_Zq.narrow {C n d : String} {A B : Nat → Prop} {U : State} {H : Heap} (h : vx_Zq C n d A U H) (hAB : ∀ q, B q → A q) : vx_Zq C n d B U H := ⟨va_Zq.narrow h.1 hAB, vx_L.narrow h.2 hAB⟩
theorem vx_Zqof {args : Array Value} {s : State} {C n d : String} {A : Nat → Prop} (hl : (Cond.laysStatic C n d).before args s = true) (hini : (Cond.initialized C).before args s = true) (h : (Cond.isRef (.static C n d)).before args s = true) (hA : ∀ a : Nat, a < s.heap.size → ¬ A a) : vx_Zq C n d A s s.heap := by
  refine ⟨va_Zqof hl hini h hA, ?_⟩
  obtain ⟨c, k, i, f, a, cell, h1, h2, h3, h4, h5, h6, h7, h8, h9⟩ := Cond.laysStatic_spec hl
  exact ⟨c, k, i, f, a, cell, h1, h2, h3, h4, h5, h6, h7, h8, h9, hA a (Array.getElem?_eq_some_iff.mp h5).1⟩
theorem vx_isRef {C n d : String} {v : Value} {A : Nat → Prop} {s : State} {args : Array Value} (h : va_Z C n d v A s s.heap) (hv : v.isRef = true) : (Cond.isRef (.static C n d)).before args s = true := by
  obtain ⟨cf, kf, fi, f, a, cell, h1, h2, h3, h4, h5, h6, h7, -⟩ := h
  have he : (Term.static C n d).eval args s none [] s = some v := by
    simp [Term.eval, State.fieldNamed?, h1, h2, h4, h5, h6, h7]
  simp only [Cond.before, Cond.holds, Cond.value, he]
  cases v <;> simp_all [Value.isRef]
theorem vx_isRefq {C n d : String} {A : Nat → Prop} {s : State} {args : Array Value} (h : va_Zq C n d A s s.heap) : (Cond.isRef (.static C n d)).before args s = true := by
  rcases h with h | ⟨t, h⟩
  · exact vx_isRef h rfl
  · exact vx_isRef h rfl
/-- the same frame, seen from here: as if the method were called anew in this heap -/
theorem vx_rebase {T : State} (X : Stand p l e R s m args below meth c T locs cells slots) {R' : Room} (hf : R'.frames ≤ R.frames) (hl : R'.locals ≤ R.locals) (hc : cells + R'.cells ≤ R.cells) (hs : slots + R'.slots ≤ R.slots) :
    Stand p l e R' ((T.setVm s.vm).setFrames (.invoking m args :: below)) m args below meth c T [] 0 0 := by
  have htop : (T.setVm s.vm).topJava?.isSome := X.here.top
  have hF : ((T.setVm s.vm).setFrames (.invoking m args :: below)).frames = .invoking m args :: below := State.frames_setFrames _ (State.cur_lt_of_top htop)
  obtain ⟨g₀, hg0⟩ := Option.isSome_iff_exists.mp htop
  obtain ⟨r, hr⟩ := State.topJava?_eq_some.mp hg0
  have hl9 : e.platform.stackLimits (T.setVm s.vm).me = e.platform.stackLimits s.me := X.limits
  have hb9 : (T.setVm s.vm).me.stackBytes = s.me.stackBytes := X.bytes
  refine ⟨X.admits, X.cas, X.clock, hF, ?_, X.hears, X.method, X.code, X.here, X.tail, X.warmed, ?_, ?_, ?_⟩
  · have h := X.room
    have hU : ((T.setVm s.vm).setFrames (.invoking m args :: below)).localsInUse = s.localsInUse := by
      rw [State.localsInUse_invoking hF (meth := meth) (c := c) X.method X.code, State.localsInUse_invoking X.frames X.method X.code]
    simp only [State.hasRoom, Bool.and_eq_true, decide_eq_true_eq] at h ⊢
    obtain ⟨⟨⟨⟨h1, h2, h3, h4, h5, h6⟩, h7⟩, h8⟩, h9⟩ := h
    rw [X.frames, List.length_cons] at h2 h3
    have q1 := X.heapSize
    have q2 := X.used
    simp only [hF, hU, List.length_cons, State.stackLimits_setFrames, State.stackBytes_setFrames, hl9, hb9]
    refine ⟨⟨⟨⟨by omega, by omega, by omega, by omega, by omega, h6⟩, ?_⟩, ?_⟩, X.book⟩
    · show T.heap.size + R'.cells ≤ e.platform.maxCells
      omega
    · show T.slotsUsed + R'.slots ≤ e.platform.maxSlots
      omega
  · rw [State.stackLimits_setFrames]; rfl
  · rw [State.stackBytes_setFrames]; rfl
  · refine ⟨?_, Nat.le_refl _, Nat.le_refl _, ?_, ?_, fun a c9 h9 => ⟨c9, h9, rfl, rfl, fun _ _ => rfl⟩⟩
    · obtain ⟨t, ht, -⟩ := State.frames_cons hr
      show T.setVm s.vm = { ((T.setVm s.vm).setFrames (.invoking m args :: below)).setFrames (T.setVm s.vm).frames with heap := T.heap, slotsUsed := T.slotsUsed }
      rw [State.setFrames_setFrames, State.setFrames_self ht]
      rfl
    · show T.slotsUsed = T.slotsUsed + ((T.heap.toList.drop T.heap.size).map (·.slots.size)).sum
      rw [List.drop_eq_nil_of_le (Nat.le_of_eq Array.length_toList)]
      rfl
    · show ((T.heap.toList.drop T.heap.size).map (·.slots.size)).sum ≤ 0
      rw [List.drop_eq_nil_of_le (Nat.le_of_eq Array.length_toList)]
      exact Nat.le_refl _
/-- 'throw new E()': new; dup; invokespecial; athrow -/
theorem vx_throw0 {cc : ByteArray} {pc : Nat} (hexec : p.tables.exec = Jvm.exec) (hb : c.code = cc) (hl : l.stackTraces = false) {own cls : String} {names : List String} {ik ic mc ms : Nat} {A : Nat → Prop}
    (hown : s.vm.findClass own = some m.cls) (hcls : Bundle.fit cls = true) (hnames : ∀ n ∈ names, Bundle.fit n = true)
    (hk : (Cond.classLink own ik cls).before args s = true) (hini : (Cond.initialized cls).before args s = true) (hat : ∀ w ∈ vx_at0 own ic cls names, w.before args s = true)
    (hgood : ∀ w ∈ Cond.classLink own ik cls :: Cond.initialized cls :: vx_at0 own ic cls names, vx_ot w = true)
    (hU : vx_Zq Bundle.tN "UNASSIGNED_STACK" Bundle.steD A s s.heap) (hN : vx_Zq Bundle.tN "SUPPRESSED_SENTINEL" Bundle.listD A s s.heap) (hS : va_S A s.heap H locs) (hsize : ls.size = c.maxLocals)
    (d0 : decode cc pc = .ok (.new ik, 3)) (d3 : decode cc (pc + 3) = .ok (.dup, 1)) (d4 : decode cc (pc + 4) = .ok (.invokespecial ic, 3)) (d7 : decode cc (pc + 7) = .ok (.athrow, 1))
    (hout : ∀ x ∈ c.exceptionTable.toList, covers x (pc + 7) = false)
    (hRframes : names.length + 3 < R.frames) (hRlocals : (rest.map fun v => v.category).sum + (13 * (names.length + 1) + 42) ≤ R.locals) (hRcells : cells + 1 ≤ R.cells) (hRslots : slots + 6 ≤ R.slots) (hlocks : meth.locks = false)
    (hx : ∀ t : State, s.vm.Alike t.vm → H.size ≤ t.heap.size → (∀ q : Nat, q < H.size → t.heap[q]? = H[q]?) → XC cls s t)
    (hf : ∀ z ∈ locs, free z.base) (hc : cells + 1 ≤ mc) (hs : slots + 6 ≤ ms) :
    W p l e R s m args below meth c H locs cells slots (vx_MQ below Qc XC args s mc ms free) (F0 m pc ls rest) := by
  intro T hT X
  have htr : e.platform.stackTraces = false := (show e.platform.stackTraces = l.stackTraces by rw [X.admits.platform]).trans hl
  have Y := vx_rebase X (R' := { frames := R.frames, locals := R.locals, cells := 1, slots := 6 }) (Nat.le_refl _) (Nat.le_refl _) hRcells hRslots
  obtain ⟨s', hA⟩ : ∃ z, z = (T.setVm s.vm).setFrames (.invoking m args :: below) := ⟨_, rfl⟩
  rw [← hA] at Y
  have hvm : s'.vm = s.vm := by rw [hA]; rfl
  have hhp : s'.heap = H := by rw [hA]; exact hT
  have hW0 : s.WarmedH s'.vm := by rw [hvm]; exact State.WarmedH.refl s
  have hat' : ∀ w ∈ vx_at0 own ic cls names, w.before args s' = true := fun w hw => vx_ot_at hW0 hvm.symm (hgood w (List.mem_cons_of_mem _ (List.mem_cons_of_mem _ hw))) (hat w hw)
  have hk' : (Cond.classLink own ik cls).before args s' = true := vx_ot_at hW0 hvm.symm (hgood _ List.mem_cons_self) hk
  have hini' : (Cond.initialized cls).before args s' = true := vx_ot_at hW0 hvm.symm (hgood _ (List.mem_cons_of_mem _ List.mem_cons_self)) hini
  have hU' : vx_Zq Bundle.tN "UNASSIGNED_STACK" Bundle.steD A s' s'.heap := by rw [hhp]; exact vx_Zq.moved hW0.alike (hU.kept hS.2.1)
  have hN' : vx_Zq Bundle.tN "SUPPRESSED_SENTINEL" Bundle.listD A s' s'.heap := by rw [hhp]; exact vx_Zq.moved hW0.alike (hN.kept hS.2.1)
  have h : ∀ w ∈ Bundle.ownAtoms0 own ic cls names, w.before args s' = true := vx_own hat' (vx_isRefq hU'.1) (vx_isRefq hN'.1) hU'.2.word hN'.2.word
  have hown' : s'.vm.findClass own = some m.cls := by rw [hvm]; exact hown
  have hins : (Cond.instantiable cls 6).before args s' = true := h _ (by simp [Bundle.ownAtoms0])
  obtain ⟨vm₁, cX, kX, hfX, hkX, -, -, X₁, st1⟩ := Y.newCold hexec (own := own) (C := cls) (index := ik) (n := 6) hown' hk' hins hini'
    (g := F0 m pc ls rest) rfl (by rw [hb]; exact d0) (Nat.le_refl _) (Nat.le_refl _)
  generalize hT1 : (T.setVm vm₁).pushCell { cls := cX, slots := kX.instanceTypes.map defaultValue, vm := .none } = T1 at X₁ st1
  have hcat : (Value.ref T.heap.size).category = 1 := rfl
  have hcellA : T1.heap[T.heap.size]? = some (freshCell cX kX) := by rw [← hT1]; exact State.heap_pushCell_size _ _
  have d3' : decode c.code (pc + 3) = .ok (.dup, 1) := by rw [hb]; exact d3
  obtain ⟨U, hsteps, hrun, hend, hW, hsame, ce, hce, hO⟩ := X₁.ctorThrow0 hexec htr (own := own) (cls := cls) (names := names) (ic := ic) hown' hcls hnames h (fun x hx => nomatch hx) hfX hkX hcellA (by rw [hhp, hT]; exact Nat.le_refl _)
    (g := { method := m, pc := pc + 4, locals := ls, stack := .ref T.heap.size :: .ref T.heap.size :: rest, locked := none }) rfl hsize rfl rfl (rest := rest) rfl
    (by rw [hb]; exact d4) (by rw [hb]; exact d7) hout hRframes (by simp only [List.map_cons, List.sum_cons, hcat]; omega) hlocks
  obtain ⟨f1, f2⟩ := vx_frame hsame
  rw [hhp] at f1 f2
  have hWs : s.WarmedH U.vm := State.WarmedH.trans hW0 hW
  have hcl : s.vm.findClass cls = some ce.cls := by
    have h9 := hO.cls
    rw [hvm] at h9
    exact h9
  have hall : s.sameButNew ({ U with vm := s.vm } : State) locs mc ms := by
    subst hA
    obtain ⟨e1, e2⟩ := hsame
    rw [State.setFrames_setFrames] at e1
    have h2 : (T.setVm s.vm).sameButNew ({ U with vm := s.vm } : State) [] (0 + 1) (0 + 6) := ⟨e1, e2⟩
    have h3 := X.same.trans h2
    rw [List.append_nil] at h3
    exact h3.mono hc hs
  refine ⟨U, ?_, .threw T.heap.size, hrun, hend, Or.inr ⟨T.heap.size, rfl, cls, ce, locs, hx U hWs.alike f1 (fun q hq => f2 q hq (fun z hz => nomatch hz)), hce, hO.vm, hcl, hWs, hall, hf⟩⟩
  refine st1 _ ?_
  show Steps p.tables e below (T1.setTop { method := m, pc := pc + 3, locals := ls, stack := .ref T.heap.size :: rest, locked := none }) _
  jvm_step X₁.here [X₁.here.top, hexec, d3', Value.category]
  exact hsteps
/-- 'throw new E("text")': new; dup; ldc; invokespecial; athrow -/
theorem vx_throwS {cc : ByteArray} {pc : Nat} (hexec : p.tables.exec = Jvm.exec) (hb : c.code = cc) (hl : l.stackTraces = false) {own cls text : String} {names : List String} {ik is ic mc ms sa : Nat} {A : Nat → Prop}
    (hown : s.vm.findClass own = some m.cls) (hcls : Bundle.fit cls = true) (hnames : ∀ n ∈ names, Bundle.fit n = true)
    (hk : (Cond.classLink own ik cls).before args s = true) (hini : (Cond.initialized cls).before args s = true) (hstr : vk_R own is text sa s) (hat : ∀ w ∈ vx_atS own ic cls names, w.before args s = true)
    (hgood : ∀ w ∈ Cond.classLink own ik cls :: Cond.initialized cls :: vx_atS own ic cls names, vx_ot w = true)
    (hU : vx_Zq Bundle.tN "UNASSIGNED_STACK" Bundle.steD A s s.heap) (hN : vx_Zq Bundle.tN "SUPPRESSED_SENTINEL" Bundle.listD A s s.heap) (hS : va_S A s.heap H locs) (hsize : ls.size = c.maxLocals)
    (d0 : decode cc pc = .ok (.new ik, 3)) (d3 : decode cc (pc + 3) = .ok (.dup, 1)) (d4 : decode cc (pc + 4) = .ok (.ldc is, 2)) (d6 : decode cc (pc + 6) = .ok (.invokespecial ic, 3)) (d9 : decode cc (pc + 9) = .ok (.athrow, 1))
    (hout : ∀ x ∈ c.exceptionTable.toList, covers x (pc + 9) = false)
    (hRframes : names.length + 3 < R.frames) (hRlocals : (rest.map fun v => v.category).sum + (13 * (names.length + 1) + 43) ≤ R.locals) (hRcells : cells + 1 ≤ R.cells) (hRslots : slots + 6 ≤ R.slots) (hlocks : meth.locks = false)
    (hx : ∀ t : State, s.vm.Alike t.vm → H.size ≤ t.heap.size → (∀ q : Nat, q < H.size → t.heap[q]? = H[q]?) → XC cls s t)
    (hf : ∀ z ∈ locs, free z.base) (hc : cells + 1 ≤ mc) (hs : slots + 6 ≤ ms) :
    W p l e R s m args below meth c H locs cells slots (vx_MQ below Qc XC args s mc ms free) (F0 m pc ls rest) := by
  intro T hT X
  have htr : e.platform.stackTraces = false := (show e.platform.stackTraces = l.stackTraces by rw [X.admits.platform]).trans hl
  have Y := vx_rebase X (R' := { frames := R.frames, locals := R.locals, cells := 1, slots := 6 }) (Nat.le_refl _) (Nat.le_refl _) hRcells hRslots
  obtain ⟨s', hA⟩ : ∃ z, z = (T.setVm s.vm).setFrames (.invoking m args :: below) := ⟨_, rfl⟩
  rw [← hA] at Y
  have hvm : s'.vm = s.vm := by rw [hA]; rfl
  have hhp : s'.heap = H := by rw [hA]; exact hT
  have hW0 : s.WarmedH s'.vm := by rw [hvm]; exact State.WarmedH.refl s
  have hat' : ∀ w ∈ vx_atS own ic cls names, w.before args s' = true := fun w hw => vx_ot_at hW0 hvm.symm (hgood w (List.mem_cons_of_mem _ (List.mem_cons_of_mem _ hw))) (hat w hw)
  have hk' : (Cond.classLink own ik cls).before args s' = true := vx_ot_at hW0 hvm.symm (hgood _ List.mem_cons_self) hk
  have hini' : (Cond.initialized cls).before args s' = true := vx_ot_at hW0 hvm.symm (hgood _ (List.mem_cons_of_mem _ List.mem_cons_self)) hini
  have hU' : vx_Zq Bundle.tN "UNASSIGNED_STACK" Bundle.steD A s' s'.heap := by rw [hhp]; exact vx_Zq.moved hW0.alike (hU.kept hS.2.1)
  have hN' : vx_Zq Bundle.tN "SUPPRESSED_SENTINEL" Bundle.listD A s' s'.heap := by rw [hhp]; exact vx_Zq.moved hW0.alike (hN.kept hS.2.1)
  have h : ∀ w ∈ Bundle.ownAtoms own ic cls names, w.before args s' = true := vx_own hat' (vx_isRefq hU'.1) (vx_isRefq hN'.1) hU'.2.word hN'.2.word
  have hown' : s'.vm.findClass own = some m.cls := by rw [hvm]; exact hown
  have hins : (Cond.instantiable cls 6).before args s' = true := h _ (by simp [Bundle.ownAtoms])
  obtain ⟨vm₁, cX, kX, hfX, hkX, -, -, X₁, st1⟩ := Y.newCold hexec (own := own) (C := cls) (index := ik) (n := 6) hown' hk' hins hini'
    (g := F0 m pc ls rest) rfl (by rw [hb]; exact d0) (Nat.le_refl _) (Nat.le_refl _)
  generalize hT1 : (T.setVm vm₁).pushCell { cls := cX, slots := kX.instanceTypes.map defaultValue, vm := .none } = T1 at X₁ st1
  have hcat : (Value.ref T.heap.size).category = 1 := rfl
  have hcellA : T1.heap[T.heap.size]? = some (freshCell cX kX) := by rw [← hT1]; exact State.heap_pushCell_size _ _
  have d3' : decode c.code (pc + 3) = .ok (.dup, 1) := by rw [hb]; exact d3
  have d4' : decode c.code (pc + 4) = .ok (.ldc is, 2) := by rw [hb]; exact d4
  have hstr' : vk_R own is text sa s' := vk_R.warm hW0 hstr
  obtain ⟨U, hsteps, hrun, hend, hW, hsame, ce, hce, hO⟩ := X₁.ctorThrowS hexec htr (own := own) (cls := cls) (names := names) (ic := ic) hown' hcls hnames h (fun x hx => nomatch hx) hfX hkX hcellA (by rw [hhp, hT]; exact Nat.le_refl _) (msg := .ref sa) rfl
    (g := { method := m, pc := pc + 6, locals := ls, stack := .ref sa :: .ref T.heap.size :: .ref T.heap.size :: rest, locked := none }) rfl hsize rfl rfl (rest := rest) rfl
    (by rw [hb]; exact d6) (by rw [hb]; exact d9) hout hRframes (by simp only [List.map_cons, List.sum_cons, hcat]; omega) hlocks
  obtain ⟨f1, f2⟩ := vx_frame hsame
  rw [hhp] at f1 f2
  have hWs : s.WarmedH U.vm := State.WarmedH.trans hW0 hW
  have hcl : s.vm.findClass cls = some ce.cls := by
    have h9 := hO.cls
    rw [hvm] at h9
    exact h9
  have hall : s.sameButNew ({ U with vm := s.vm } : State) locs mc ms := by
    subst hA
    obtain ⟨e1, e2⟩ := hsame
    rw [State.setFrames_setFrames] at e1
    have h2 : (T.setVm s.vm).sameButNew ({ U with vm := s.vm } : State) [] (0 + 1) (0 + 6) := ⟨e1, e2⟩
    have h3 := X.same.trans h2
    rw [List.append_nil] at h3
    exact h3.mono hc hs
  refine ⟨U, ?_, .threw T.heap.size, hrun, hend, Or.inr ⟨T.heap.size, rfl, cls, ce, locs, hx U hWs.alike f1 (fun q hq => f2 q hq (fun z hz => nomatch hz)), hce, hO.vm, hcl, hWs, hall, hf⟩⟩
  refine st1 _ ?_
  show Steps p.tables e below (T1.setTop { method := m, pc := pc + 3, locals := ls, stack := .ref T.heap.size :: rest, locked := none }) _
  jvm_step X₁.here [X₁.here.top, hexec, d3', Value.category]
  exact X₁.ldcString hexec (own := own) (text := text) (index := is) (a := sa) hown' hstr'.1 hstr'.2
    (g := { method := m, pc := pc + 4, locals := ls, stack := .ref T.heap.size :: .ref T.heap.size :: rest, locked := none }) rfl d4' _ hsteps
/-- 'throw new E("text")', the text by a wide index -/
theorem vx_throwSW {cc : ByteArray} {pc : Nat} (hexec : p.tables.exec = Jvm.exec) (hb : c.code = cc) (hl : l.stackTraces = false) {own cls text : String} {names : List String} {ik is ic mc ms sa : Nat} {A : Nat → Prop}
    (hown : s.vm.findClass own = some m.cls) (hcls : Bundle.fit cls = true) (hnames : ∀ n ∈ names, Bundle.fit n = true)
    (hk : (Cond.classLink own ik cls).before args s = true) (hini : (Cond.initialized cls).before args s = true) (hstr : vk_R own is text sa s) (hat : ∀ w ∈ vx_atS own ic cls names, w.before args s = true)
    (hgood : ∀ w ∈ Cond.classLink own ik cls :: Cond.initialized cls :: vx_atS own ic cls names, vx_ot w = true)
    (hU : vx_Zq Bundle.tN "UNASSIGNED_STACK" Bundle.steD A s s.heap) (hN : vx_Zq Bundle.tN "SUPPRESSED_SENTINEL" Bundle.listD A s s.heap) (hS : va_S A s.heap H locs) (hsize : ls.size = c.maxLocals)
    (d0 : decode cc pc = .ok (.new ik, 3)) (d3 : decode cc (pc + 3) = .ok (.dup, 1)) (d4 : decode cc (pc + 4) = .ok (.ldc_w is, 3)) (d7 : decode cc (pc + 7) = .ok (.invokespecial ic, 3)) (d10 : decode cc (pc + 10) = .ok (.athrow, 1))
    (hout : ∀ x ∈ c.exceptionTable.toList, covers x (pc + 10) = false)
    (hRframes : names.length + 3 < R.frames) (hRlocals : (rest.map fun v => v.category).sum + (13 * (names.length + 1) + 43) ≤ R.locals) (hRcells : cells + 1 ≤ R.cells) (hRslots : slots + 6 ≤ R.slots) (hlocks : meth.locks = false)
    (hx : ∀ t : State, s.vm.Alike t.vm → H.size ≤ t.heap.size → (∀ q : Nat, q < H.size → t.heap[q]? = H[q]?) → XC cls s t)
    (hf : ∀ z ∈ locs, free z.base) (hc : cells + 1 ≤ mc) (hs : slots + 6 ≤ ms) :
    W p l e R s m args below meth c H locs cells slots (vx_MQ below Qc XC args s mc ms free) (F0 m pc ls rest) := by
  intro T hT X
  have htr : e.platform.stackTraces = false := (show e.platform.stackTraces = l.stackTraces by rw [X.admits.platform]).trans hl
  have Y := vx_rebase X (R' := { frames := R.frames, locals := R.locals, cells := 1, slots := 6 }) (Nat.le_refl _) (Nat.le_refl _) hRcells hRslots
  obtain ⟨s', hA⟩ : ∃ z, z = (T.setVm s.vm).setFrames (.invoking m args :: below) := ⟨_, rfl⟩
  rw [← hA] at Y
  have hvm : s'.vm = s.vm := by rw [hA]; rfl
  have hhp : s'.heap = H := by rw [hA]; exact hT
  have hW0 : s.WarmedH s'.vm := by rw [hvm]; exact State.WarmedH.refl s
  have hat' : ∀ w ∈ vx_atS own ic cls names, w.before args s' = true := fun w hw => vx_ot_at hW0 hvm.symm (hgood w (List.mem_cons_of_mem _ (List.mem_cons_of_mem _ hw))) (hat w hw)
  have hk' : (Cond.classLink own ik cls).before args s' = true := vx_ot_at hW0 hvm.symm (hgood _ List.mem_cons_self) hk
  have hini' : (Cond.initialized cls).before args s' = true := vx_ot_at hW0 hvm.symm (hgood _ (List.mem_cons_of_mem _ List.mem_cons_self)) hini
  have hU' : vx_Zq Bundle.tN "UNASSIGNED_STACK" Bundle.steD A s' s'.heap := by rw [hhp]; exact vx_Zq.moved hW0.alike (hU.kept hS.2.1)
  have hN' : vx_Zq Bundle.tN "SUPPRESSED_SENTINEL" Bundle.listD A s' s'.heap := by rw [hhp]; exact vx_Zq.moved hW0.alike (hN.kept hS.2.1)
  have h : ∀ w ∈ Bundle.ownAtoms own ic cls names, w.before args s' = true := vx_own hat' (vx_isRefq hU'.1) (vx_isRefq hN'.1) hU'.2.word hN'.2.word
  have hown' : s'.vm.findClass own = some m.cls := by rw [hvm]; exact hown
  have hins : (Cond.instantiable cls 6).before args s' = true := h _ (by simp [Bundle.ownAtoms])
  obtain ⟨vm₁, cX, kX, hfX, hkX, -, -, X₁, st1⟩ := Y.newCold hexec (own := own) (C := cls) (index := ik) (n := 6) hown' hk' hins hini'
    (g := F0 m pc ls rest) rfl (by rw [hb]; exact d0) (Nat.le_refl _) (Nat.le_refl _)
  generalize hT1 : (T.setVm vm₁).pushCell { cls := cX, slots := kX.instanceTypes.map defaultValue, vm := .none } = T1 at X₁ st1
  have hcat : (Value.ref T.heap.size).category = 1 := rfl
  have hcellA : T1.heap[T.heap.size]? = some (freshCell cX kX) := by rw [← hT1]; exact State.heap_pushCell_size _ _
  have d3' : decode c.code (pc + 3) = .ok (.dup, 1) := by rw [hb]; exact d3
  have d4' : decode c.code (pc + 4) = .ok (.ldc_w is, 3) := by rw [hb]; exact d4
  have hstr' : vk_R own is text sa s' := vk_R.warm hW0 hstr
  obtain ⟨U, hsteps, hrun, hend, hW, hsame, ce, hce, hO⟩ := X₁.ctorThrowS hexec htr (own := own) (cls := cls) (names := names) (ic := ic) hown' hcls hnames h (fun x hx => nomatch hx) hfX hkX hcellA (by rw [hhp, hT]; exact Nat.le_refl _) (msg := .ref sa) rfl
    (g := { method := m, pc := pc + 7, locals := ls, stack := .ref sa :: .ref T.heap.size :: .ref T.heap.size :: rest, locked := none }) rfl hsize rfl rfl (rest := rest) rfl
    (by rw [hb]; exact d7) (by rw [hb]; exact d10) hout hRframes (by simp only [List.map_cons, List.sum_cons, hcat]; omega) hlocks
  obtain ⟨f1, f2⟩ := vx_frame hsame
  rw [hhp] at f1 f2
  have hWs : s.WarmedH U.vm := State.WarmedH.trans hW0 hW
  have hcl : s.vm.findClass cls = some ce.cls := by
    have h9 := hO.cls
    rw [hvm] at h9
    exact h9
  have hall : s.sameButNew ({ U with vm := s.vm } : State) locs mc ms := by
    subst hA
    obtain ⟨e1, e2⟩ := hsame
    rw [State.setFrames_setFrames] at e1
    have h2 : (T.setVm s.vm).sameButNew ({ U with vm := s.vm } : State) [] (0 + 1) (0 + 6) := ⟨e1, e2⟩
    have h3 := X.same.trans h2
    rw [List.append_nil] at h3
    exact h3.mono hc hs
  refine ⟨U, ?_, .threw T.heap.size, hrun, hend, Or.inr ⟨T.heap.size, rfl, cls, ce, locs, hx U hWs.alike f1 (fun q hq => f2 q hq (fun z hz => nomatch hz)), hce, hO.vm, hcl, hWs, hall, hf⟩⟩
  refine st1 _ ?_
  show Steps p.tables e below (T1.setTop { method := m, pc := pc + 3, locals := ls, stack := .ref T.heap.size :: rest, locked := none }) _
  jvm_step X₁.here [X₁.here.top, hexec, d3', Value.category]
  exact X₁.ldcStringW hexec (own := own) (text := text) (index := is) (a := sa) hown' hstr'.1 hstr'.2
    (g := { method := m, pc := pc + 4, locals := ls, stack := .ref T.heap.size :: .ref T.heap.size :: rest, locked := none }) rfl d4' _ hsteps
end Ends
section Bodies
variable {l : Launch}
theorem vx_ofW {y : MethodName} {ws ws' : List Cond} {rm : Room} {Pc : Array Value → State → Prop} {Qc : Array Value → State → Outcome → State → Prop} {XC : String → State → State → Prop} {mc ms : Nat} {free : Addr → Prop} {cc : ByteArray} {maxL : Nat} {ret : Option FieldType}
    (hy : plainName y.cls = true) (hw : ws = Cond.code y cc maxL ret :: ws')
    (body : ∀ p e s m args below meth c s₁, BodyLoose p l y (headSpec ws rm) cc maxL ret e s m args below meth c s₁ → c.maxLocals = maxL → (∀ x ∈ c.exceptionTable.toList, False) → Pc args s →
      W p l e (headSpec ws rm).room s m args below meth c s.heap [] 0 0 (vx_MQ below Qc XC args s mc ms free) (entryFrame m args maxL)) : vx_Met l y ws rm Pc Qc XC mc ms free := by
  refine MetFree.of_bodyS (code := cc) (maxLocals := maxL) (ret := ret) hy ?_ ?_
  · intro args s m h hn
    obtain ⟨meth, c, h1, h2, h3, h4, h5, h6, -, -⟩ := Cond.code_spec hn (atoms_spec (ws := ws) h _ (by rw [hw]; exact List.mem_cons_self))
    exact ⟨meth, c, h1, h2, h3, h4, h5, h6⟩
  · intro p e s m args below meth c s₁ B hml hP _
    have hh0 : s₁.heap = s.heap := by rw [B.state]; rfl
    have ht : ∀ x ∈ c.exceptionTable.toList, False := by
      obtain ⟨meth9, c9, h1, h2, -, -, -, -, h7, -⟩ := Cond.code_spec B.named (atoms_spec (ws := ws) B.pre _ (by rw [hw]; exact List.mem_cons_self))
      cases Option.some.inj (h1.symm.trans B.method)
      cases Option.some.inj (h2.symm.trans (Stand.of_body B).code)
      intro x hx
      rw [Array.isEmpty_iff.mp h7] at hx
      cases hx
    obtain ⟨t, a1, o, b1, b2, b3⟩ := body p e s m args below meth c s₁ B hml ht hP s₁ hh0 (Stand.of_body B)
    exact ⟨t, o, a1, b1, b2, b3⟩
/-- the table of a body with handlers -/
theorem vx_table {p : Program} {x y : MethodName} {S : Spec} {cc bytes : ByteArray} {maxL maxL' : Nat} {ret ret' : Option FieldType} {e : Env} {s s₁ : State} {m : MethodId} {args : Array Value} {below : List Frame} {meth : Method} {c : Code} {hh : List (Nat × Nat × Nat × Nat)}
    (B : BodyLoose p l y S cc maxL ret e s m args below meth c s₁) (h : (Cond.codeWith y bytes maxL' ret' hh).before args s = true) : c.exceptionTable.toList = tableOf hh := by
  obtain ⟨m9, meth9, c9, hn9, h1, h2, -, -, h6, -⟩ := Cond.codeWith_spec h
  cases Option.some.inj (hn9.symm.trans B.named)
  cases Option.some.inj (h1.symm.trans B.method)
  cases Option.some.inj (h2.symm.trans (Stand.of_body B).code)
  rw [← h6, table_eq]
end Bodies
end VXA
/-! ===== END ===== -/
/-! ===== BEGIN a static call of a method with an exception table ===== -/
section VXS
variable {p : Program} {l : Launch} {e : Env} {R : Room} {s : State} {m : MethodId} {args : Array Value} {below : List Frame} {meth : Method} {c : Code} {T : State} {H : Heap} {locs : List Loc} {cells slots : Nat}
abbrev vx_CSW (R : Room) (s : State) (args : Array Value) (own : String) (index : Nat) (y : MethodName) (bytes : ByteArray) (maxL : Nat) (ret : Option FieldType) (hh : List (Nat × Nat × Nat × Nat)) (ws : List Cond) (rm : Room) (mc ms n : Nat) : Prop :=
  (rm.cells = mc ∧ rm.slots = ms ∧ rm.frames + 1 ≤ R.frames ∧ 8 + (maxL + 11) + rm.locals ≤ R.locals ∧ (∀ w ∈ ws, ∀ (a' : Array Value) (U : State), s.WarmedH U.vm → w.before a' U = true) ∧ Cond.codeWith y bytes maxL ret hh ∈ ws) ∧
  (Cond.codeWith y bytes maxL ret hh).before args s = true ∧ (Cond.initialized y.cls).before args s = true ∧ (y.cls ≠ "java/lang/invoke/MethodHandle" ∧ y.cls ≠ "java/lang/invoke/VarHandle") ∧
  (∀ sig, parseMethodDescriptor y.desc = some sig → n = sig.parameters.length) ∧ (Cond.methodLink own index y).before args s = true ∧ (Cond.static y).before args s = true
theorem vx_cwSW {own : String} {index maxL mc ms : Nat} {y : MethodName} {bytes : ByteArray} {ret : Option FieldType} {hh : List (Nat × Nat × Nat × Nat)} {Ts ws ws' : List Cond} {rm : Room} (n : Nat) (ht : ∀ w ∈ Ts, w.before args s = true) (hT : GoodIn Ts (va_wsS own index y ws)) (hw : ws = Cond.codeWith y bytes maxL ret hh :: ws') (hrc : rm.cells = mc) (hrs : rm.slots = ms)
    (hd : y.cls ≠ "java/lang/invoke/MethodHandle" ∧ y.cls ≠ "java/lang/invoke/VarHandle" ∧ (parseMethodDescriptor y.desc).map (fun d => d.parameters.length) = some n) (hR : rm.frames + 1 ≤ R.frames ∧ 8 + (maxL + 11) + rm.locals ≤ R.locals) :
    vx_CSW R s args own index y bytes maxL ret hh ws rm mc ms n := by
  have ok : ∀ w ∈ va_wsS own index y ws, w.before args s = true := fun w h => ht w (hT w h).1
  have hG : GoodIn Ts ws := fun w h => hT w (by unfold va_wsS; exact List.mem_append_right _ h)
  have hc : Cond.codeWith y bytes maxL ret hh ∈ ws := by rw [hw]; exact List.mem_cons_self
  refine ⟨⟨hrc, hrs, hR.1, hR.2, pay_in ht hG, hc⟩, ht _ (hG _ hc).1, ok _ (by simp [va_wsS]), ⟨hd.1, hd.2.1⟩, fun sig h => ?_, ok _ (by simp [va_wsS]), ok _ (by simp [va_wsS])⟩
  have h2 := hd.2.2
  rw [h] at h2
  exact (Option.some.inj h2).symm
theorem vx_callSW (X : Stand p l e R s m args below meth c T locs cells slots) (hexec : p.tables.exec = Jvm.exec) {own : String} {index : Nat} {y : MethodName} {bytes : ByteArray} {maxL : Nat} {ret : Option FieldType} {hh : List (Nat × Nat × Nat × Nat)}
    (hown : s.vm.findClass own = some m.cls) (hlink : (Cond.methodLink own index y).before args s = true) (hstat : (Cond.static y).before args s = true) (hinit : (Cond.initialized y.cls).before args s = true)
    (hcode : (Cond.codeWith y bytes maxL ret hh).before args s = true) (hy : y.cls ≠ "java/lang/invoke/MethodHandle" ∧ y.cls ≠ "java/lang/invoke/VarHandle")
    {W9 : Nat} {Pre : Pt → Array Value → Prop} {Post : Pt → Array Value → Option Value → Pt → Prop} (hK : Back l R p e below s args y 3 W9 Pre Post)
    {g : JFrame} (hg : g.method = m) (hsize : g.locals.size = c.maxLocals) {argsL rest : List Value} (hlen : ∀ sig, parseMethodDescriptor y.desc = some sig → argsL.length = sig.parameters.length)
    (hstack : g.stack = argsL.reverse ++ rest) (hW : 2 * g.monitorRoom + (rest.map fun v => v.category).sum ≤ W9) (hdg : decode c.code g.pc = .ok (.invokestatic index, 3))
    (hpre : ∀ vm₁, s.WarmedH vm₁ → Pre ⟨T.setVm vm₁, locs, cells, slots⟩ argsL.toArray) :
    ∃ (v : Option Value) (vm₁ : Vm) (B : Pt), s.WarmedH vm₁ ∧ Stand p l e R s m args below meth c B.U B.locs B.cells B.slots ∧ Post ⟨T.setVm vm₁, locs, cells, slots⟩ argsL.toArray v B ∧
      ∀ target, Steps p.tables e below (B.U.setTop { g with pc := g.pc + 3, stack := v.toList ++ rest }) target → Steps p.tables e below (T.setTop g) target := by
  obtain ⟨mk, methM, cM, hnamed, hmethM, -, -, -, -, -, -, hsigM⟩ := Cond.codeWith_spec hcode
  have hstatic : methM.isStatic = true := Cond.static_spec hnamed hmethM hstat
  obtain ⟨kP, hkP, -⟩ := className_of_methodNamed hnamed
  have hinitP : kP.init = .initialized := Cond.initialized_spec (findClass_of_methodNamed hnamed) hkP hinit
  obtain ⟨vm₁, X₁, hstep₁⟩ := X.invokestatic hexec hown hlink hnamed hmethM hstatic hkP hinitP hy (g := g) hg (argsL := argsL) (rest := rest) (hlen _ hsigM) hstack hdg
  obtain ⟨v, B, X', hpost, hsteps⟩ := hK m meth c ⟨T.setVm vm₁, locs, cells, slots⟩ { g with stack := rest } (.invokestatic index) mk argsL.toArray X₁ hg hsize hdg hW (X₁.named hnamed) (hpre vm₁ X₁.warmed)
  exact ⟨v, vm₁, B, X₁.warmed, X', hpost, fun target h => hstep₁ _ fun acts => by rw [doInvoke_state]; exact hsteps.trans h⟩
theorem vx_runSW {y : MethodName} {bytes cc : ByteArray} {maxL nL mc ms n index : Nat} {ret : Option FieldType} {hh : List (Nat × Nat × Nat × Nat)} {ws : List Cond} {rm : Room} {Pc : Array Value → State → Prop} {Qc : Array Value → State → Outcome → State → Prop} {free : Addr → Prop} {Ts : List Cond} {own : String} {As rest : List Value} {g : JFrame}
    (S : CallFix p m c cc nL s args Ts own) (hM : Met l y ws rm Pc Qc mc ms free) (cw : vx_CSW R s args own index y bytes maxL ret hh ws rm mc ms n) (hp : PreS s H Pc As)
    (hg : g.method = m) (hn : As.length = n) (hsize : g.locals.size = nL) (hstack : g.stack = As.reverse ++ rest) (hW : 2 * g.monitorRoom + (rest.map fun v => v.category).sum ≤ 8) (hdg : decode cc g.pc = .ok (.invokestatic index, 3)) (hf : cells + mc ≤ R.cells ∧ slots + ms ≤ R.slots) :
    va_Run p l e R s m args below meth c H locs cells slots mc ms g rest (Qc As.toArray) (free) := by
  obtain ⟨⟨hrc, hrs, hfr, hlo, hws, hcw⟩, hcode, hini, hy, hlen, hl, hstt⟩ := cw
  have hK : Back l R p e below s args y 3 8 (PreOf R mc ms Pc) (PostOf Qc mc ms free) := va_backW (hh := hh) (bytes := bytes) (maxL := maxL) (ret := ret) hM hp.1 hrc hrs hfr hlo hws hcw (fun a' U hW => word_at hW (Or.inl (by first | rfl | simp [Cond.onTables, Cond.keeps, Cond.steady])) hini)
  obtain ⟨hx, hb, hml, ho, -⟩ := S
  intro T hT X
  obtain ⟨v, vm₁, ⟨U', l2, c2, s2⟩, hW₁, X', ⟨g', mk, t, L, e1, e2, hq, h1, hL, h2, h3⟩, st⟩ := vx_callSW X hx (hh := hh) (bytes := bytes) (maxL := maxL) (ret := ret) ho hl hstt hini hcode hy hK hg (hsize.trans hml.symm) (argsL := As) (rest := rest) (fun sig h => hn.trans (hlen sig h)) hstack hW (by rw [hb]; exact hdg)
    (fun vm₁ hW₁ => ⟨hf.1, hf.2, hp.2 (T.setVm vm₁) hT hW₁⟩)
  dsimp only [Pt.U, Pt.locs, Pt.cells, Pt.slots] at X' e1 e2 h1 h2 h3 st
  subst h1; subst h2; subst h3
  exact ⟨v, (T.setVm vm₁).calling g' mk As.toArray, t, U', L, hT, X', hL, e1, e2, hq, st⟩
/-- not caught here, past rows that name other classes: it goes on to the caller -/
theorem vx_outP {p : Program} {l : Launch} {e : Env} {R : Room} {s : State} {m : MethodId} {args : Array Value} {below : List Frame} {meth : Method} {c : Code} {H : Heap} {locs : List Loc} {cells slots : Nat} {free : Addr → Prop} {ls : Array Slot} {rest : List Value} {Qc : Array Value → State → Outcome → State → Prop} {XC : String → State → State → Prop}
    {pc : Nat} {own E : String} {ce : Cell} {q : Addr} {mc ms : Nat} (hown : s.vm.findClass own = some m.cls) (hlocks : meth.locks = false)
    (hpass : ∀ z ∈ c.exceptionTable.toList, covers z pc = false ∨ (z.catchType ≠ 0 ∧ ∃ nm : String, (Cond.classLink own z.catchType nm).before args s = true ∧ va_Nc E nm s)) (hcell : H[q]? = some ce) (hv : ce.vm = .none) (hcl : s.vm.findClass E = some ce.cls)
    (hx : ∀ t : State, t.heap = H → s.vm.Alike t.vm → XC E s t) (hf : ∀ z ∈ locs, free z.base) (hc : cells ≤ mc) (hs : slots ≤ ms) :
    vx_W p l e R s m args below meth c H locs cells slots (vx_MQ below Qc XC args s mc ms free) (F0 m pc ls rest) q := by
  intro T hT X
  have hpl : e.platform.magicAccessors = ({} : Platform).magicAccessors := by rw [X.admits.platform]
  obtain ⟨vm', hW', X', st⟩ := X.outThrough hlocks q (g := F0 m pc ls rest) rfl rfl rfl (cell := ce) (by rw [hT]; exact hcell) (by rw [hv]; rfl)
    (by obtain ⟨k9, h9, -⟩ := Vm.findClass_spec hcl; exact ⟨k9, h9⟩) (fun z hz => by
      rcases hpass z hz with h | ⟨hz0, nm, hl1, hn1⟩
      · exact Or.inl h
      · obtain ⟨c6, hc6, hcl6⟩ := Cond.classLink_spec hown hl1 e.platform hpl
        obtain ⟨a8, b8, h1, h2, h3⟩ := hn1
        cases Option.some.inj (h1.symm.trans hcl)
        cases Option.some.inj (h2.symm.trans hc6)
        exact Or.inr ⟨hz0, _, hcl6, h3⟩)
  obtain ⟨g₀, hfr⟩ := X'.frames_eq
  have hcell9 : ((T.setVm vm').setFrames (.throwing q :: below)).heap[q]? = some ce := by
    show T.heap[q]? = some ce
    rw [hT]; exact hcell
  have hend : Ended ((T.setVm vm').setFrames (.throwing q :: below)) below (.threw q) := State.frames_setFrames _ (State.cur_lt_of_frames hfr)
  refine ⟨(T.setVm vm').setFrames (.throwing q :: below), ?_, .threw q, X'.here.running, hend, Or.inr ⟨q, rfl, E, ce, locs, hx _ hT (X'.ends _).1.alike, hcell9, hv, hcl, (X'.ends _).1, (X'.ends _).2.mono hc hs, hf⟩⟩
  rw [X.pushThrowing_eq]
  exact st
/-- a thing of a world lies in the heap -/
theorem vx_lt {D : va_G} {cl : List vw_C} {ws : va_W} {H1 : Heap} (h : va_P D cl ws H1) {k : Nat} {q : Nat × va_E} (hk : ws[k]? = some q) : q.1 < H1.size := (h k q hk).lt
end VXS
/-! ===== END ===== -/
/-! ===== BEGIN methods with a table of their own: called by a name, returning or throwing ===== -/
section VXH
/-! vx_backW, vx_callVX, vx_callSX, vx_callVW, vx_runVW, vx_runVX, vx_runSX, vx_ofWH follow the same proofs as their sisters above (Free/Laws.lean, Shelf42/LK1.lean); vx_outP calls Shelf42/NT130.lean (outThrough). -/
section
variable {l : Launch} {R : Room} {p : Program} {e : Env} {below : List Frame} {s : State} {sargs : Array Value} {y : MethodName} {len W9 : Nat}
theorem vx_backW {ws : List Cond} {rm : Room} {Pc : Array Value → State → Prop} {Qc : Array Value → State → Outcome → State → Prop} {XC : String → State → State → Prop} {mc ms : Nat} {free : Addr → Prop} {bytes : ByteArray} {maxL : Nat} {ret : Option FieldType} {hh : List (Nat × Nat × Nat × Nat)}
    (hM : vx_Met l y ws rm Pc Qc XC mc ms free) (hblind : FrameBlind Pc) (hrc : rm.cells = mc) (hrs : rm.slots = ms)
    (hframes : rm.frames + 1 ≤ R.frames) (hlocals : W9 + (maxL + 11) + rm.locals ≤ R.locals)
    (hws : ∀ w ∈ ws, ∀ a' U, s.WarmedH U.vm → w.before a' U = true) (hcode : Cond.codeWith y bytes maxL ret hh ∈ ws) (hinit : ∀ a' U, s.WarmedH U.vm → (Cond.initialized y.cls).before a' U = true) :
    vx_Back l R p e below s sargs y len W9 (PreOf R mc ms Pc) (PostOf Qc mc ms free) (vx_Post XC mc ms free) := by
  intro m meth c A g ig mk a X hg hsize hdg hW hn hp
  have h1 : (headSpec ws rm).pre.before a A.U = true := atoms_intro fun w hw => hws w hw _ _ X.warmed
  have h2 : (Cond.codeWith y bytes maxL ret hh).before a A.U = true := hws _ hcode _ _ X.warmed
  have h3 : (Cond.initialized y.cls).before a A.U = true := hinit _ _ X.warmed
  have h4 : A.cells + (headSpec ws rm).room.cells ≤ R.cells := by rw [show (headSpec ws rm).room.cells = mc from hrc]; exact hp.1
  have h5 : A.slots + (headSpec ws rm).room.slots ≤ R.slots := by rw [show (headSpec ws rm).room.slots = ms from hrs]; exact hp.2.1
  have hPc : Pc a (A.U.calling g mk a) := hblind _ _ _ _ hp.2.2
  obtain ⟨U, Ls, c0, s0⟩ := A
  dsimp only [Pt.U, Pt.locs, Pt.cells, Pt.slots] at h1 h2 h3 h4 h5 X hn hPc ⊢
  obtain ⟨m9, methY, cY, hn9, hmY, hcY, -, hlY, -⟩ := Cond.codeWith_spec h2
  cases Option.some.inj (hn9.symm.trans hn)
  obtain ⟨kY, hkY, -⟩ := className_of_methodNamed hn
  have hinitY : kY.init = .initialized := Cond.initialized_spec (findClass_of_methodNamed hn) hkY h3
  have h : At U g.method c below := by rw [hg]; exact X.here
  have hlocals9 : W9 + (maxL + 11) + (headSpec ws rm).room.locals ≤ R.locals := hlocals
  have happ : (headSpec ws rm).appliesLoose y e.platform (U.calling g mk a) = true :=
    Spec.appliesLoose_calling (g := g) h hdg hn hkY hinitY
      (X.room_calling (g := g) (R' := (headSpec ws rm).room) hsize hmY hcY hframes (by rw [hlY]; omega) h4 h5) h1
  obtain ⟨mid, hmid⟩ := h.above
  have hfr : (U.setTop g).frames = (.java g :: mid) ++ below := by rw [State.frames_setTop' g h.top, hmid]; rfl
  obtain ⟨o, s₂, hsteps, -, hend, hq⟩ := Steps.callFree hM p X.admits X.cas X.clock (acts := []) hfr happ hPc trivial
  have hq' : vx_Q Qc XC mc ms free a (U.calling g mk a) o s₂ := hq
  rw [State.frames_setTop' g h.top] at hend
  obtain ⟨g₀, hg0⟩ := Option.isSome_iff_exists.mp h.top
  obtain ⟨r, hr⟩ := State.topJava?_eq_some.mp hg0
  have hr' : (({ U with heap := s₂.heap, slotsUsed := s₂.slotsUsed } : State).setVm s₂.vm).frames = .java g₀ :: r := hr
  rcases hq' with ⟨hqc, L, hfe, hL⟩ | ⟨q, rfl, E, ce, L, hx, hce, hcv, hcl, hW₂, hsm, hL⟩
  · obtain ⟨⟨v, rfl⟩, hW₂, e2, q2, q3, q4, q5, q6⟩ := id hfe
    have e3 : s₂ = ({ (U.calling g mk a).setFrames s₂.frames with heap := s₂.heap, slotsUsed := s₂.slotsUsed } : State).setVm s₂.vm := by
      have : s₂ = ({ s₂ with vm := (U.calling g mk a).vm } : State).setVm s₂.vm := rfl
      rw [e2] at this
      exact this
    obtain ⟨c₂, i₂, len₂, hc₂, hd₂, hf₂⟩ := hend
    have hW' : U.WarmedH s₂.vm := hW₂
    have hcc : c₂ = c := by
      have h1 : s₂.code? g.method = U.code? g.method := by
        rw [State.code?_eq, State.code?_eq, hW'.alike.method?]
      exact Option.some.inj (hc₂.symm.trans (h1.trans h.code))
    subst hcc
    have hlen : len₂ = len := by rw [hdg] at hd₂; cases hd₂; rfl
    subst hlen
    have hs₂ : s₂ = (({ U with heap := s₂.heap, slotsUsed := s₂.slotsUsed } : State).setVm s₂.vm).setTop { g with pc := g.pc + len₂, stack := v.toList ++ g.stack } := by
      refine e3.trans ?_
      rw [hf₂, State.calling_eq h.top, State.setFrames_setFrames, State.setTop_of_frames _ hr', hr]
      rfl
    have hsame : U.sameButNew ({ U with heap := s₂.heap, slotsUsed := s₂.slotsUsed } : State) L mc ms := by
      refine ⟨?_, q2, q3, q4, q5, q6⟩
      obtain ⟨t, ht, -⟩ := State.frames_cons hr
      show ({ U with heap := s₂.heap, slotsUsed := s₂.slotsUsed } : State) = { U.setFrames U.frames with heap := s₂.heap, slotsUsed := s₂.slotsUsed }
      rw [State.setFrames_self ht]
    subst hg
    refine Or.inl ⟨v, ⟨(({ U with heap := s₂.heap, slotsUsed := s₂.slotsUsed } : State).setVm s₂.vm), Ls ++ L, c0 + mc, s0 + ms⟩,
      ⟨X.admits, X.cas, X.clock, X.frames, X.room, X.hears, X.method, X.code, (X.here.setHeapUsed s₂.heap s₂.slotsUsed).setVm hW'.alike, X.tail, State.WarmedH.trans X.warmed hW', X.limits, X.bytes, X.same.trans (hsame.setVm s.vm)⟩,
      ⟨g, mk, s₂, L, rfl, rfl, hqc, rfl, hL, rfl, rfl⟩, ?_⟩
    show Steps p.tables e below _ ((({ U with heap := s₂.heap, slotsUsed := s₂.slotsUsed } : State).setVm s₂.vm).setTop { g with pc := g.pc + len₂, stack := v.toList ++ g.stack })
    rw [← hs₂]
    exact hsteps
  · obtain ⟨e2, q2, q3, q4, q5, q6⟩ := id hsm
    have e3 : s₂ = ({ (U.calling g mk a).setFrames s₂.frames with heap := s₂.heap, slotsUsed := s₂.slotsUsed } : State).setVm s₂.vm := by
      have : s₂ = ({ s₂ with vm := (U.calling g mk a).vm } : State).setVm s₂.vm := rfl
      rw [e2] at this
      exact this
    have hf₂ : s₂.frames = .throwing q :: .java g :: U.frames.tail := hend
    have hW' : U.WarmedH s₂.vm := hW₂
    have hs₂ : s₂ = ((({ U with heap := s₂.heap, slotsUsed := s₂.slotsUsed } : State).setVm s₂.vm).setTop g).pushFrame (.throwing q) := by
      refine e3.trans ?_
      rw [hf₂, State.calling_eq h.top, State.setFrames_setFrames, State.pushFrame, State.frames_setTop _ hr', State.setTop_of_frames _ hr', State.setFrames_setFrames, hr]
      rfl
    have hsame : U.sameButNew ({ U with heap := s₂.heap, slotsUsed := s₂.slotsUsed } : State) L mc ms := by
      refine ⟨?_, q2, q3, q4, q5, q6⟩
      obtain ⟨t, ht, -⟩ := State.frames_cons hr
      show ({ U with heap := s₂.heap, slotsUsed := s₂.slotsUsed } : State) = { U.setFrames U.frames with heap := s₂.heap, slotsUsed := s₂.slotsUsed }
      rw [State.setFrames_self ht]
    subst hg
    refine Or.inr ⟨q, ⟨(({ U with heap := s₂.heap, slotsUsed := s₂.slotsUsed } : State).setVm s₂.vm), Ls ++ L, c0 + mc, s0 + ms⟩,
      ⟨X.admits, X.cas, X.clock, X.frames, X.room, X.hears, X.method, X.code, (X.here.setHeapUsed s₂.heap s₂.slotsUsed).setVm hW'.alike, X.tail, State.WarmedH.trans X.warmed hW', X.limits, X.bytes, X.same.trans (hsame.setVm s.vm)⟩,
      ⟨g, mk, s₂, L, E, ce, rfl, rfl, hx, hce, hcv, hcl, rfl, hL, rfl, rfl⟩, ?_⟩
    show Steps p.tables e below _ (((({ U with heap := s₂.heap, slotsUsed := s₂.slotsUsed } : State).setVm s₂.vm).setTop g).pushFrame (.throwing q))
    rw [← hs₂]
    exact hsteps
end
variable {p : Program} {l : Launch} {e : Env} {R : Room} {s : State} {m : MethodId} {args : Array Value} {below : List Frame} {meth : Method} {c : Code} {T : State} {H : Heap} {locs : List Loc} {cells slots : Nat}
theorem vx_callVX (X : Stand p l e R s m args below meth c T locs cells slots) (hexec : p.tables.exec = Jvm.exec) {own C : String} {index : Nat} {y : MethodName} {bytes : ByteArray} {maxL : Nat} {ret : Option FieldType} {hh : List (Nat × Nat × Nat × Nat)}
    (hown : s.vm.findClass own = some m.cls) (hlink : (Cond.methodLink own index y).before args s = true) (hinst : (Cond.instanceMethod y).before args s = true) (hsel : (Cond.selects C y y).before args s = true)
    (hcode : (Cond.codeWith y bytes maxL ret hh).before args s = true) (hy : y.cls ≠ "java/lang/invoke/MethodHandle" ∧ y.cls ≠ "java/lang/invoke/VarHandle")
    {W9 : Nat} {Pre : Pt → Array Value → Prop} {Post : Pt → Array Value → Option Value → Pt → Prop} {PostX : Pt → Array Value → Addr → Pt → Prop} (hK : vx_Back l R p e below s args y 3 W9 Pre Post PostX)
    {b : Addr} {cellB : Cell} (hcell : T.heap[b]? = some cellB) (hobj : cellB.vm.isStatics = false) (hcls : s.vm.findClass C = some cellB.cls)
    {g : JFrame} (hg : g.method = m) (hsize : g.locals.size = c.maxLocals) {argsL rest : List Value} (hlen : ∀ sig, parseMethodDescriptor y.desc = some sig → argsL.length = sig.parameters.length)
    (hstack : g.stack = argsL.reverse ++ .ref b :: rest) (hW : 2 * g.monitorRoom + (rest.map fun v => v.category).sum ≤ W9) (hdg : decode c.code g.pc = .ok (.invokevirtual index, 3))
    (hpre : ∀ vm₁, s.WarmedH vm₁ → Pre ⟨T.setVm vm₁, locs, cells, slots⟩ (Value.ref b :: argsL).toArray) :
    (∃ (v : Option Value) (vm₁ : Vm) (B : Pt), s.WarmedH vm₁ ∧ Stand p l e R s m args below meth c B.U B.locs B.cells B.slots ∧ Post ⟨T.setVm vm₁, locs, cells, slots⟩ (Value.ref b :: argsL).toArray v B ∧
      ∀ target, Steps p.tables e below (B.U.setTop { g with pc := g.pc + 3, stack := v.toList ++ rest }) target → Steps p.tables e below (T.setTop g) target) ∨
    (∃ (q : Addr) (vm₁ : Vm) (B : Pt), s.WarmedH vm₁ ∧ Stand p l e R s m args below meth c B.U B.locs B.cells B.slots ∧ PostX ⟨T.setVm vm₁, locs, cells, slots⟩ (Value.ref b :: argsL).toArray q B ∧
      Steps p.tables e below (T.setTop g) ((B.U.setTop { g with stack := rest }).pushFrame (.throwing q))) := by
  obtain ⟨mk, methM, hnamed, hmethM, hstM, habM⟩ := Cond.instanceMethod_spec hinst
  obtain ⟨m8, methM', cM, hn8, hmethM', -, -, -, -, -, -, hsigM⟩ := Cond.codeWith_spec hcode
  cases Option.some.inj (hn8.symm.trans hnamed)
  cases hmethM.symm.trans hmethM'
  obtain ⟨c2, r2, m2, q1, q2, q3, q4, kP, hkP, hkPi⟩ := Cond.selects_spec hsel
  cases hcls.symm.trans q1
  cases (State.methodFound?_of_named hnamed hy).symm.trans q2
  cases hnamed.symm.trans q3
  have hselP : selectMethod e.platform s.vm cellB.cls mk = .method mk := by rw [Launch.admits_selectMethod X.admits]; exact q4
  obtain ⟨vm₁, X₁, hstep₁⟩ := X.invokevirtual hexec hown hlink hnamed hmethM hstM hkP hkPi hy (a := b) (cell := cellB) hcell
    (fun z h => by rw [h] at hobj; cases hobj) hselP hmethM habM hkP hkPi (g := g) hg (argsL := argsL) (rest := rest) (hlen _ hsigM) hstack hdg
  rcases hK m meth c ⟨T.setVm vm₁, locs, cells, slots⟩ { g with stack := rest } (.invokevirtual index) mk (Value.ref b :: argsL).toArray X₁ hg hsize hdg hW (X₁.named hnamed) (hpre vm₁ X₁.warmed) with ⟨v, B, X', hpost, hsteps⟩ | ⟨q, B, X', hpost, hsteps⟩
  · exact Or.inl ⟨v, vm₁, B, X₁.warmed, X', hpost, fun target h => hstep₁ _ fun acts => by rw [doInvoke_state]; exact hsteps.trans h⟩
  · exact Or.inr ⟨q, vm₁, B, X₁.warmed, X', hpost, hstep₁ _ fun acts => by rw [doInvoke_state]; exact hsteps⟩
theorem vx_callSX (X : Stand p l e R s m args below meth c T locs cells slots) (hexec : p.tables.exec = Jvm.exec) {own : String} {index : Nat} {y : MethodName} {bytes : ByteArray} {maxL : Nat} {ret : Option FieldType} {hh : List (Nat × Nat × Nat × Nat)}
    (hown : s.vm.findClass own = some m.cls) (hlink : (Cond.methodLink own index y).before args s = true) (hstat : (Cond.static y).before args s = true) (hinit : (Cond.initialized y.cls).before args s = true)
    (hcode : (Cond.codeWith y bytes maxL ret hh).before args s = true) (hy : y.cls ≠ "java/lang/invoke/MethodHandle" ∧ y.cls ≠ "java/lang/invoke/VarHandle")
    {W9 : Nat} {Pre : Pt → Array Value → Prop} {Post : Pt → Array Value → Option Value → Pt → Prop} {PostX : Pt → Array Value → Addr → Pt → Prop} (hK : vx_Back l R p e below s args y 3 W9 Pre Post PostX)
    {g : JFrame} (hg : g.method = m) (hsize : g.locals.size = c.maxLocals) {argsL rest : List Value} (hlen : ∀ sig, parseMethodDescriptor y.desc = some sig → argsL.length = sig.parameters.length)
    (hstack : g.stack = argsL.reverse ++ rest) (hW : 2 * g.monitorRoom + (rest.map fun v => v.category).sum ≤ W9) (hdg : decode c.code g.pc = .ok (.invokestatic index, 3))
    (hpre : ∀ vm₁, s.WarmedH vm₁ → Pre ⟨T.setVm vm₁, locs, cells, slots⟩ argsL.toArray) :
    (∃ (v : Option Value) (vm₁ : Vm) (B : Pt), s.WarmedH vm₁ ∧ Stand p l e R s m args below meth c B.U B.locs B.cells B.slots ∧ Post ⟨T.setVm vm₁, locs, cells, slots⟩ argsL.toArray v B ∧
      ∀ target, Steps p.tables e below (B.U.setTop { g with pc := g.pc + 3, stack := v.toList ++ rest }) target → Steps p.tables e below (T.setTop g) target) ∨
    (∃ (q : Addr) (vm₁ : Vm) (B : Pt), s.WarmedH vm₁ ∧ Stand p l e R s m args below meth c B.U B.locs B.cells B.slots ∧ PostX ⟨T.setVm vm₁, locs, cells, slots⟩ argsL.toArray q B ∧
      Steps p.tables e below (T.setTop g) ((B.U.setTop { g with stack := rest }).pushFrame (.throwing q))) := by
  obtain ⟨mk, methM, cM, hnamed, hmethM, -, -, -, -, -, -, hsigM⟩ := Cond.codeWith_spec hcode
  have hstatic : methM.isStatic = true := Cond.static_spec hnamed hmethM hstat
  obtain ⟨kP, hkP, -⟩ := className_of_methodNamed hnamed
  have hinitP : kP.init = .initialized := Cond.initialized_spec (findClass_of_methodNamed hnamed) hkP hinit
  obtain ⟨vm₁, X₁, hstep₁⟩ := X.invokestatic hexec hown hlink hnamed hmethM hstatic hkP hinitP hy (g := g) hg (argsL := argsL) (rest := rest) (hlen _ hsigM) hstack hdg
  rcases hK m meth c ⟨T.setVm vm₁, locs, cells, slots⟩ { g with stack := rest } (.invokestatic index) mk argsL.toArray X₁ hg hsize hdg hW (X₁.named hnamed) (hpre vm₁ X₁.warmed) with ⟨v, B, X', hpost, hsteps⟩ | ⟨q, B, X', hpost, hsteps⟩
  · exact Or.inl ⟨v, vm₁, B, X₁.warmed, X', hpost, fun target h => hstep₁ _ fun acts => by rw [doInvoke_state]; exact hsteps.trans h⟩
  · exact Or.inr ⟨q, vm₁, B, X₁.warmed, X', hpost, hstep₁ _ fun acts => by rw [doInvoke_state]; exact hsteps⟩
theorem vx_callVW (X : Stand p l e R s m args below meth c T locs cells slots) (hexec : p.tables.exec = Jvm.exec) {own C : String} {index : Nat} {y : MethodName} {bytes : ByteArray} {maxL : Nat} {ret : Option FieldType} {hh : List (Nat × Nat × Nat × Nat)}
    (hown : s.vm.findClass own = some m.cls) (hlink : (Cond.methodLink own index y).before args s = true) (hinst : (Cond.instanceMethod y).before args s = true) (hsel : (Cond.selects C y y).before args s = true)
    (hcode : (Cond.codeWith y bytes maxL ret hh).before args s = true) (hy : y.cls ≠ "java/lang/invoke/MethodHandle" ∧ y.cls ≠ "java/lang/invoke/VarHandle")
    {W9 : Nat} {Pre : Pt → Array Value → Prop} {Post : Pt → Array Value → Option Value → Pt → Prop} (hK : Back l R p e below s args y 3 W9 Pre Post)
    {b : Addr} {cellB : Cell} (hcell : T.heap[b]? = some cellB) (hobj : cellB.vm.isStatics = false) (hcls : s.vm.findClass C = some cellB.cls)
    {g : JFrame} (hg : g.method = m) (hsize : g.locals.size = c.maxLocals) {argsL rest : List Value} (hlen : ∀ sig, parseMethodDescriptor y.desc = some sig → argsL.length = sig.parameters.length)
    (hstack : g.stack = argsL.reverse ++ .ref b :: rest) (hW : 2 * g.monitorRoom + (rest.map fun v => v.category).sum ≤ W9) (hdg : decode c.code g.pc = .ok (.invokevirtual index, 3))
    (hpre : ∀ vm₁, s.WarmedH vm₁ → Pre ⟨T.setVm vm₁, locs, cells, slots⟩ (Value.ref b :: argsL).toArray) :
    ∃ (v : Option Value) (vm₁ : Vm) (B : Pt), s.WarmedH vm₁ ∧ Stand p l e R s m args below meth c B.U B.locs B.cells B.slots ∧ Post ⟨T.setVm vm₁, locs, cells, slots⟩ (Value.ref b :: argsL).toArray v B ∧
      ∀ target, Steps p.tables e below (B.U.setTop { g with pc := g.pc + 3, stack := v.toList ++ rest }) target → Steps p.tables e below (T.setTop g) target := by
  obtain ⟨mk, methM, hnamed, hmethM, hstM, habM⟩ := Cond.instanceMethod_spec hinst
  obtain ⟨m8, methM', cM, hn8, hmethM', -, -, -, -, -, -, hsigM⟩ := Cond.codeWith_spec hcode
  cases Option.some.inj (hn8.symm.trans hnamed)
  cases hmethM.symm.trans hmethM'
  obtain ⟨c2, r2, m2, q1, q2, q3, q4, kP, hkP, hkPi⟩ := Cond.selects_spec hsel
  cases hcls.symm.trans q1
  cases (State.methodFound?_of_named hnamed hy).symm.trans q2
  cases hnamed.symm.trans q3
  have hselP : selectMethod e.platform s.vm cellB.cls mk = .method mk := by rw [Launch.admits_selectMethod X.admits]; exact q4
  obtain ⟨vm₁, X₁, hstep₁⟩ := X.invokevirtual hexec hown hlink hnamed hmethM hstM hkP hkPi hy (a := b) (cell := cellB) hcell
    (fun z h => by rw [h] at hobj; cases hobj) hselP hmethM habM hkP hkPi (g := g) hg (argsL := argsL) (rest := rest) (hlen _ hsigM) hstack hdg
  obtain ⟨v, B, X', hpost, hsteps⟩ := hK m meth c ⟨T.setVm vm₁, locs, cells, slots⟩ { g with stack := rest } (.invokevirtual index) mk (Value.ref b :: argsL).toArray X₁ hg hsize hdg hW (X₁.named hnamed) (hpre vm₁ X₁.warmed)
  exact ⟨v, vm₁, B, X₁.warmed, X', hpost, fun target h => hstep₁ _ fun acts => by rw [doInvoke_state]; exact hsteps.trans h⟩
abbrev vx_CVW (R : Room) (s : State) (args : Array Value) (own C : String) (index : Nat) (y : MethodName) (bytes : ByteArray) (maxL : Nat) (ret : Option FieldType) (hh : List (Nat × Nat × Nat × Nat)) (ws : List Cond) (rm : Room) (mc ms n : Nat) : Prop :=
  (rm.cells = mc ∧ rm.slots = ms ∧ rm.frames + 1 ≤ R.frames ∧ 8 + (maxL + 11) + rm.locals ≤ R.locals ∧ (∀ w ∈ ws, ∀ (a' : Array Value) (U : State), s.WarmedH U.vm → w.before a' U = true) ∧ Cond.codeWith y bytes maxL ret hh ∈ ws) ∧
  (Cond.codeWith y bytes maxL ret hh).before args s = true ∧ (Cond.initialized y.cls).before args s = true ∧ (y.cls ≠ "java/lang/invoke/MethodHandle" ∧ y.cls ≠ "java/lang/invoke/VarHandle") ∧
  (∀ sig, parseMethodDescriptor y.desc = some sig → n = sig.parameters.length) ∧ (Cond.methodLink own index y).before args s = true ∧ (Cond.instanceMethod y).before args s = true ∧ (Cond.selects C y y).before args s = true
theorem vx_cwVW {own C : String} {index maxL mc ms : Nat} {y : MethodName} {bytes : ByteArray} {ret : Option FieldType} {hh : List (Nat × Nat × Nat × Nat)} {Ts ws ws' : List Cond} {rm : Room} (n : Nat) (ht : ∀ w ∈ Ts, w.before args s = true) (hT : GoodIn Ts (wsV own index C y ws)) (hw : ws = Cond.codeWith y bytes maxL ret hh :: ws') (hrc : rm.cells = mc) (hrs : rm.slots = ms)
    (hd : y.cls = C ∧ y.cls ≠ "java/lang/invoke/MethodHandle" ∧ y.cls ≠ "java/lang/invoke/VarHandle" ∧ (parseMethodDescriptor y.desc).map (fun d => d.parameters.length) = some n) (hR : rm.frames + 1 ≤ R.frames ∧ 8 + (maxL + 11) + rm.locals ≤ R.locals) :
    vx_CVW R s args own C index y bytes maxL ret hh ws rm mc ms n := by
  obtain ⟨hC, hd⟩ := hd
  subst hC
  have ok : ∀ w ∈ wsV own index y.cls y ws, w.before args s = true := fun w h => ht w (hT w h).1
  have hG : GoodIn Ts ws := fun w h => hT w (by unfold wsV; exact List.mem_append_right _ h)
  have hc : Cond.codeWith y bytes maxL ret hh ∈ ws := by rw [hw]; exact List.mem_cons_self
  refine ⟨⟨hrc, hrs, hR.1, hR.2, pay_in ht hG, hc⟩, ht _ (hG _ hc).1, ok _ (by simp [wsV]), ⟨hd.1, hd.2.1⟩, fun sig h => ?_, ok _ (by simp [wsV]), ok _ (by simp [wsV]), ok _ (by simp [wsV])⟩
  have h2 := hd.2.2
  rw [h] at h2
  exact (Option.some.inj h2).symm
theorem vx_runVW {y : MethodName} {bytes cc : ByteArray} {maxL nL mc ms n index : Nat} {ret : Option FieldType} {hh : List (Nat × Nat × Nat × Nat)} {ws : List Cond} {rm : Room} {Pc : Array Value → State → Prop} {Qc : Array Value → State → Outcome → State → Prop} {free : Addr → Prop} {Ts : List Cond} {own C : String} {b : Addr} {As rest : List Value} {g : JFrame}
    (S : CallFix p m c cc nL s args Ts own) (hM : Met l y ws rm Pc Qc mc ms free) (cw : vx_CVW R s args own C index y bytes maxL ret hh ws rm mc ms n) (hp : PreV s H C b Pc As)
    (hg : g.method = m) (hn : As.length = n) (hsize : g.locals.size = nL) (hstack : g.stack = As.reverse ++ .ref b :: rest) (hW : 2 * g.monitorRoom + (rest.map fun v => v.category).sum ≤ 8) (hdg : decode cc g.pc = .ok (.invokevirtual index, 3)) (hf : cells + mc ≤ R.cells ∧ slots + ms ≤ R.slots) :
    va_Run p l e R s m args below meth c H locs cells slots mc ms g rest (Qc (Value.ref b :: As).toArray) free := by
  obtain ⟨⟨hrc, hrs, hfr, hlo, hws, hcw⟩, hcode, hini, hy, hlen, hl, hin, hse⟩ := cw
  have hK : Back l R p e below s args y 3 8 (PreOf R mc ms Pc) (PostOf Qc mc ms free) := va_backW (hh := hh) (bytes := bytes) (maxL := maxL) (ret := ret) hM hp.1 hrc hrs hfr hlo hws hcw (fun a' U hW => word_at hW (Or.inl (by first | rfl | simp [Cond.onTables, Cond.keeps, Cond.steady])) hini)
  obtain ⟨hx, hb, hml, ho, -⟩ := S
  obtain ⟨-, ⟨cellB, hcB, hoB, hclB⟩, hPc⟩ := hp
  intro T hT X
  obtain ⟨v, vm₁, ⟨U', l2, c2, s2⟩, hW₁, X', ⟨g', mk, t, L, e1, e2, hq, h1, hL, h2, h3⟩, st⟩ := vx_callVW X hx (C := C) (hh := hh) (bytes := bytes) (maxL := maxL) (ret := ret) ho hl hin hse hcode hy hK (by rw [hT]; exact hcB) hoB hclB hg (hsize.trans hml.symm) (argsL := As) (rest := rest) (fun sig h => hn.trans (hlen sig h)) hstack hW (by rw [hb]; exact hdg)
    (fun vm₁ hW₁ => ⟨hf.1, hf.2, hPc (T.setVm vm₁) hT hW₁⟩)
  dsimp only [Pt.U, Pt.locs, Pt.cells, Pt.slots] at X' e1 e2 h1 h2 h3 st
  subst h1; subst h2; subst h3
  exact ⟨v, (T.setVm vm₁).calling g' mk (Value.ref b :: As).toArray, t, U', L, hT, X', hL, e1, e2, hq, st⟩
section
variable {y : MethodName} {bytes cc : ByteArray} {maxL nL mc ms n index : Nat} {ret : Option FieldType} {ws : List Cond} {rm : Room} {Pc : Array Value → State → Prop} {Qc : Array Value → State → Outcome → State → Prop} {XC : String → State → State → Prop} {free : Addr → Prop} {Ts : List Cond} {own C : String} {b : Addr} {As rest : List Value} {g : JFrame}
theorem vx_runVX {hh : List (Nat × Nat × Nat × Nat)} (S : CallFix p m c cc nL s args Ts own) (hM : vx_Met l y ws rm Pc Qc XC mc ms free) (cw : vx_CVW R s args own C index y bytes maxL ret hh ws rm mc ms n) (hp : PreV s H C b Pc As)
    (hg : g.method = m) (hn : As.length = n) (hsize : g.locals.size = nL) (hstack : g.stack = As.reverse ++ .ref b :: rest) (hW : 2 * g.monitorRoom + (rest.map fun v => v.category).sum ≤ 8) (hdg : decode cc g.pc = .ok (.invokevirtual index, 3)) (hf : cells + mc ≤ R.cells ∧ slots + ms ≤ R.slots) :
    vx_Run p l e R s m args below meth c H locs cells slots mc ms g rest (Qc (Value.ref b :: As).toArray) XC free := by
  obtain ⟨⟨hrc, hrs, hfr, hlo, hws, hcw⟩, hcode, hini, hy, hlen, hl, hin, hse⟩ := cw
  have hK : vx_Back l R p e below s args y 3 8 (PreOf R mc ms Pc) (PostOf Qc mc ms free) (vx_Post XC mc ms free) := vx_backW (hh := hh) (bytes := bytes) (maxL := maxL) (ret := ret) hM hp.1 hrc hrs hfr hlo hws hcw (fun a' U hW => word_at hW (Or.inl (by first | rfl | simp [Cond.onTables, Cond.keeps, Cond.steady])) hini)
  obtain ⟨hx, hb, hml, ho, -⟩ := S
  obtain ⟨-, ⟨cellB, hcB, hoB, hclB⟩, hPc⟩ := hp
  intro T hT X
  rcases vx_callVX X hx (C := C) (hh := hh) (bytes := bytes) (maxL := maxL) (ret := ret) ho hl hin hse hcode hy hK (by rw [hT]; exact hcB) hoB hclB hg (hsize.trans hml.symm) (argsL := As) (rest := rest) (fun sig h => hn.trans (hlen sig h)) hstack hW (by rw [hb]; exact hdg)
    (fun vm₁ hW₁ => ⟨hf.1, hf.2, hPc (T.setVm vm₁) hT hW₁⟩) with ⟨v, vm₁, ⟨U', l2, c2, s2⟩, hW₁, X', ⟨g', mk, t, L, e1, e2, hq, h1, hL, h2, h3⟩, st⟩ | ⟨q, vm₁, ⟨U', l2, c2, s2⟩, hW₁, X', ⟨g', mk, t, L, E, ce, e1, e2, hq, hce, hcv, hcl, h1, hL, h2, h3⟩, st⟩
  · dsimp only [Pt.U, Pt.locs, Pt.cells, Pt.slots] at X' e1 e2 h1 h2 h3 st
    subst h1; subst h2; subst h3
    exact Or.inl ⟨v, (T.setVm vm₁).calling g' mk (Value.ref b :: As).toArray, t, U', L, hT, X', hL, e1, e2, hq, st⟩
  · dsimp only [Pt.U, Pt.locs, Pt.cells, Pt.slots] at X' e1 e2 h1 h2 h3 st hcl
    subst h1; subst h2; subst h3
    exact Or.inr ⟨q, (T.setVm vm₁).calling g' mk (Value.ref b :: As).toArray, t, U', L, E, ce, hT, X', hL, e1, e2, hq, hce, hcv, vx_cls hW₁ hcl, st⟩
theorem vx_runSX {hh : List (Nat × Nat × Nat × Nat)} (S : CallFix p m c cc nL s args Ts own) (hM : vx_Met l y ws rm Pc Qc XC mc ms free) (cw : vx_CSW R s args own index y bytes maxL ret hh ws rm mc ms n) (hp : PreS s H Pc As)
    (hg : g.method = m) (hn : As.length = n) (hsize : g.locals.size = nL) (hstack : g.stack = As.reverse ++ rest) (hW : 2 * g.monitorRoom + (rest.map fun v => v.category).sum ≤ 8) (hdg : decode cc g.pc = .ok (.invokestatic index, 3)) (hf : cells + mc ≤ R.cells ∧ slots + ms ≤ R.slots) :
    vx_Run p l e R s m args below meth c H locs cells slots mc ms g rest (Qc As.toArray) XC free := by
  obtain ⟨⟨hrc, hrs, hfr, hlo, hws, hcw⟩, hcode, hini, hy, hlen, hl, hstt⟩ := cw
  have hK : vx_Back l R p e below s args y 3 8 (PreOf R mc ms Pc) (PostOf Qc mc ms free) (vx_Post XC mc ms free) := vx_backW (hh := hh) (bytes := bytes) (maxL := maxL) (ret := ret) hM hp.1 hrc hrs hfr hlo hws hcw (fun a' U hW => word_at hW (Or.inl (by first | rfl | simp [Cond.onTables, Cond.keeps, Cond.steady])) hini)
  obtain ⟨hx, hb, hml, ho, -⟩ := S
  intro T hT X
  rcases vx_callSX X hx (hh := hh) (bytes := bytes) (maxL := maxL) (ret := ret) ho hl hstt hini hcode hy hK hg (hsize.trans hml.symm) (argsL := As) (rest := rest) (fun sig h => hn.trans (hlen sig h)) hstack hW (by rw [hb]; exact hdg)
    (fun vm₁ hW₁ => ⟨hf.1, hf.2, hp.2 (T.setVm vm₁) hT hW₁⟩) with ⟨v, vm₁, ⟨U', l2, c2, s2⟩, hW₁, X', ⟨g', mk, t, L, e1, e2, hq, h1, hL, h2, h3⟩, st⟩ | ⟨q, vm₁, ⟨U', l2, c2, s2⟩, hW₁, X', ⟨g', mk, t, L, E, ce, e1, e2, hq, hce, hcv, hcl, h1, hL, h2, h3⟩, st⟩
  · dsimp only [Pt.U, Pt.locs, Pt.cells, Pt.slots] at X' e1 e2 h1 h2 h3 st
    subst h1; subst h2; subst h3
    exact Or.inl ⟨v, (T.setVm vm₁).calling g' mk As.toArray, t, U', L, hT, X', hL, e1, e2, hq, st⟩
  · dsimp only [Pt.U, Pt.locs, Pt.cells, Pt.slots] at X' e1 e2 h1 h2 h3 st hcl
    subst h1; subst h2; subst h3
    exact Or.inr ⟨q, (T.setVm vm₁).calling g' mk As.toArray, t, U', L, E, ce, hT, X', hL, e1, e2, hq, hce, hcv, vx_cls hW₁ hcl, st⟩
end
end VXH
theorem vx_ofWH {l : Launch} {y : MethodName} {ws ws' : List Cond} {rm : Room} {Pc : Array Value → State → Prop} {Qc : Array Value → State → Outcome → State → Prop} {XC : String → State → State → Prop} {mc ms : Nat} {free : Addr → Prop} {cc : ByteArray} {maxL : Nat} {ret : Option FieldType} {hh : List (Nat × Nat × Nat × Nat)}
    (hy : plainName y.cls = true) (hw : ws = Cond.codeWith y cc maxL ret hh :: ws')
    (body : ∀ p e s m args below meth c s₁, BodyLoose p l y (headSpec ws rm) cc maxL ret e s m args below meth c s₁ → c.maxLocals = maxL → Pc args s →
      W p l e (headSpec ws rm).room s m args below meth c s.heap [] 0 0 (vx_MQ below Qc XC args s mc ms free) (entryFrame m args maxL)) : vx_Met l y ws rm Pc Qc XC mc ms free := by
  refine MetFree.of_bodyS (code := cc) (maxLocals := maxL) (ret := ret) hy ?_ ?_
  · intro args s m h hn
    obtain ⟨m9, meth, c, hn9, h1, h2, h3, h4, -, h5, h6, -⟩ := Cond.codeWith_spec (atoms_spec (ws := ws) h _ (by rw [hw]; exact List.mem_cons_self))
    cases hn.symm.trans hn9
    exact ⟨meth, c, h1, h2, h3, h4, h5, h6⟩
  · intro p e s m args below meth c s₁ B hml hP _
    have hh0 : s₁.heap = s.heap := by rw [B.state]; rfl
    obtain ⟨t, a1, o, b1, b2, b3⟩ := body p e s m args below meth c s₁ B hml hP s₁ hh0 (Stand.of_body B)
    exact ⟨t, o, a1, b1, b2, b3⟩
/-! ===== END ===== -/
end
section
/-! ===== BEGIN printed: names, fields, word lists, decode rows ===== -/
def RX0 : String := "NailRods$Fogger"
def TX0 : u_T := fun k => match k with
  | 0 => ("NailRods$Fogger", "keptBack", "I", false)
  | 1 => ("NailRods$Fogger", "coins", "I", false)
  | 2 => ("NailRods$Fogger", "bought", "I", false)
  | 3 => ("NailRods$Fogger", "paid", "I", false)
  | 4 => ("NailRods$Fogger", "earned", "I", false)
  | _ => ("NailRods$Fogger", "loadWorth", "I", false)
def tyX0 : Nat → FieldType := fun k => match k with
  | 0 => .int
  | 1 => .int
  | 2 => .int
  | 3 => .int
  | 4 => .int
  | _ => .int
abbrev wsX00 : List Cond := u_ws RX0 TX0 6
theorem nmX0 : ∀ a, a < 6 → ∀ b, b < 6 → a ≠ b → (TX0 a).2.1 ≠ (TX0 b).2.1 := by decide +kernel
theorem tyX0_ok : ∀ k, k < 6 → parseFieldDescriptor (TX0 k).2.2.1 = some (tyX0 k) := by decide +kernel
abbrev cX0_init : ByteArray := prog_2_method_1_code
def yX0_init : MethodName := ⟨RX0, "<init>", "()V"⟩
abbrev cX0_copyFrom : ByteArray := prog_2_method_2_code
def yX0_copyFrom : MethodName := ⟨RX0, "copyFrom", "(LNailRods$Fogger;)V"⟩
abbrev cX0_buyBags : ByteArray := prog_2_method_3_code
def yX0_buyBags : MethodName := ⟨RX0, "buyBags", "(LNailRods$Nailer;)V"⟩
abbrev cX0_collectDebt : ByteArray := prog_2_method_4_code
def yX0_collectDebt : MethodName := ⟨RX0, "collectDebt", "(LNailRods$Nailer;)V"⟩
abbrev cX0_deliver : ByteArray := prog_2_method_5_code
def yX0_deliver : MethodName := ⟨RX0, "deliver", "()V"⟩
def RX1 : String := "NailRods$Nailer"
def TX1 : u_T := fun k => match k with
  | 0 => ("NailRods$Nailer", "skill", "I", false)
  | 1 => ("NailRods$Nailer", "kind", "I", false)
  | 2 => ("NailRods$Nailer", "fogger", "I", false)
  | 3 => ("NailRods$Nailer", "rods", "I", false)
  | 4 => ("NailRods$Nailer", "ounces", "I", false)
  | 5 => ("NailRods$Nailer", "heat", "I", false)
  | 6 => ("NailRods$Nailer", "coal", "I", false)
  | 7 => ("NailRods$Nailer", "coins", "I", false)
  | 8 => ("NailRods$Nailer", "owed", "I", false)
  | 9 => ("NailRods$Nailer", "scrap", "I", false)
  | 10 => ("NailRods$Nailer", "burnt", "I", false)
  | 11 => ("NailRods$Nailer", "good", "I", false)
  | 12 => ("NailRods$Nailer", "loose", "[I", true)
  | _ => ("NailRods$Nailer", "bags", "[I", true)
def tyX1 : Nat → FieldType := fun k => match k with
  | 0 => .int
  | 1 => .int
  | 2 => .int
  | 3 => .int
  | 4 => .int
  | 5 => .int
  | 6 => .int
  | 7 => .int
  | 8 => .int
  | 9 => .int
  | 10 => .int
  | 11 => .int
  | 12 => .array .int
  | _ => .array .int
abbrev wsX10 : List Cond := u_ws RX1 TX1 14
theorem nmX1 : ∀ a, a < 14 → ∀ b, b < 14 → a ≠ b → (TX1 a).2.1 ≠ (TX1 b).2.1 := by decide +kernel
theorem tyX1_ok : ∀ k, k < 14 → parseFieldDescriptor (TX1 k).2.2.1 = some (tyX1 k) := by decide +kernel
abbrev cX1_init : ByteArray := prog_3_method_1_code
def yX1_init : MethodName := ⟨RX1, "<init>", "()V"⟩
abbrev cX1_begin : ByteArray := prog_3_method_2_code
def yX1_begin : MethodName := ⟨RX1, "begin", "(III)V"⟩
abbrev cX1_copyFrom : ByteArray := prog_3_method_3_code
def yX1_copyFrom : MethodName := ⟨RX1, "copyFrom", "(LNailRods$Nailer;)V"⟩
abbrev cX1_workHours : ByteArray := prog_3_method_4_code
def yX1_workHours : MethodName := ⟨RX1, "workHours", "(I)I"⟩
abbrev cX1_workHour : ByteArray := prog_3_method_5_code
def yX1_workHour : MethodName := ⟨RX1, "workHour", "()I"⟩
abbrev cX1_tendFire : ByteArray := prog_3_method_6_code
def yX1_tendFire : MethodName := ⟨RX1, "tendFire", "()V"⟩
abbrev cX1_head : ByteArray := prog_3_method_7_code
def yX1_head : MethodName := ⟨RX1, "head", "(I)I"⟩
abbrev cX1_headFromHand : ByteArray := prog_3_method_8_code
def yX1_headFromHand : MethodName := ⟨RX1, "headFromHand", "(I)I"⟩
abbrev cX1_store : ByteArray := prog_3_method_9_code
def yX1_store : MethodName := ⟨RX1, "store", "(I)V"⟩
abbrev cX1_number : ByteArray := prog_3_method_10_code
def yX1_number : MethodName := ⟨RX1, "number", "(I)I"⟩
abbrev cX1_shareOfTotal : ByteArray := prog_3_method_11_code
def yX1_shareOfTotal : MethodName := ⟨RX1, "shareOfTotal", "(I)I"⟩
abbrev cX1_sumOf : ByteArray := prog_3_method_12_code
def yX1_sumOf : MethodName := ⟨RX1, "sumOf", "([I)I"⟩
abbrev cX1_addToDigest : ByteArray := prog_3_method_13_code
def yX1_addToDigest : MethodName := ⟨RX1, "addToDigest", "(J)J"⟩
def RX2 : String := "NailRods$Trade"
def TX2 : u_T := fun k => match k with
  | 0 => ("NailRods$Trade", "hour", "I", false)
  | 1 => ("NailRods$Trade", "nailerCount", "I", false)
  | 2 => ("NailRods$Trade", "nailers", "[LNailRods$Nailer;", true)
  | _ => ("NailRods$Trade", "foggers", "[LNailRods$Fogger;", true)
def tyX2 : Nat → FieldType := fun k => match k with
  | 0 => .int
  | 1 => .int
  | 2 => .array (.object "NailRods$Nailer")
  | _ => .array (.object "NailRods$Fogger")
abbrev wsX20 : List Cond := u_ws RX2 TX2 4
theorem nmX2 : ∀ a, a < 4 → ∀ b, b < 4 → a ≠ b → (TX2 a).2.1 ≠ (TX2 b).2.1 := by decide +kernel
theorem tyX2_ok : ∀ k, k < 4 → parseFieldDescriptor (TX2 k).2.2.1 = some (tyX2 k) := by decide +kernel
abbrev cX2_init : ByteArray := prog_4_method_1_code
def yX2_init : MethodName := ⟨RX2, "<init>", "()V"⟩
abbrev cX2_copyFrom : ByteArray := prog_4_method_2_code
def yX2_copyFrom : MethodName := ⟨RX2, "copyFrom", "(LNailRods$Trade;)V"⟩
abbrev cX2_goBy : ByteArray := prog_4_method_3_code
def yX2_goBy : MethodName := ⟨RX2, "goBy", "(I)I"⟩
abbrev cX2_goByOne : ByteArray := prog_4_method_4_code
def yX2_goByOne : MethodName := ⟨RX2, "goByOne", "()I"⟩
abbrev cX2_reckonWeek : ByteArray := prog_4_method_5_code
def yX2_reckonWeek : MethodName := ⟨RX2, "reckonWeek", "()V"⟩
abbrev cX2_total : ByteArray := prog_4_method_6_code
def yX2_total : MethodName := ⟨RX2, "total", "(I)I"⟩
abbrev cX2_warehouseBags : ByteArray := prog_4_method_7_code
def yX2_warehouseBags : MethodName := ⟨RX2, "warehouseBags", "()I"⟩
abbrev cX2_sumOfShares : ByteArray := prog_4_method_8_code
def yX2_sumOfShares : MethodName := ⟨RX2, "sumOfShares", "(I)I"⟩
abbrev cX2_foggerNumber : ByteArray := prog_4_method_9_code
def yX2_foggerNumber : MethodName := ⟨RX2, "foggerNumber", "(II)I"⟩
abbrev cX2_workersFor : ByteArray := prog_4_method_10_code
def yX2_workersFor : MethodName := ⟨RX2, "workersFor", "(I)I"⟩
def RX3 : String := "NailRods"
def TX3 : u_T := fun k => match k with
  | 0 => ("NailRods", "trade", "LNailRods$Trade;", true)
  | 1 => ("NailRods", "foreseen", "LNailRods$Trade;", true)
  | _ => ("NailRods", "trial", "LNailRods$Nailer;", true)
def tyX3 : Nat → FieldType := fun k => match k with
  | 0 => .object "NailRods$Trade"
  | 1 => .object "NailRods$Trade"
  | _ => .object "NailRods$Nailer"
abbrev wsX30 : List Cond := u_ws RX3 TX3 3
theorem nmX3 : ∀ a, a < 3 → ∀ b, b < 3 → a ≠ b → (TX3 a).2.1 ≠ (TX3 b).2.1 := by decide +kernel
theorem tyX3_ok : ∀ k, k < 3 → parseFieldDescriptor (TX3 k).2.2.1 = some (tyX3 k) := by decide +kernel
abbrev cX3_init : ByteArray := prog_1_method_1_code
def yX3_init : MethodName := ⟨RX3, "<init>", "()V"⟩
abbrev cX3_nailer : ByteArray := prog_1_method_2_code
def yX3_nailer : MethodName := ⟨RX3, "nailer", "(III)I"⟩
abbrev cX3_lend : ByteArray := prog_1_method_3_code
def yX3_lend : MethodName := ⟨RX3, "lend", "(II)I"⟩
abbrev cX3_coal : ByteArray := prog_1_method_4_code
def yX3_coal : MethodName := ⟨RX3, "coal", "(II)I"⟩
abbrev cX3_make : ByteArray := prog_1_method_5_code
def yX3_make : MethodName := ⟨RX3, "make", "(II)I"⟩
abbrev cX3_change : ByteArray := prog_1_method_6_code
def yX3_change : MethodName := ⟨RX3, "change", "(II)I"⟩
abbrev cX3_told : ByteArray := prog_1_method_7_code
def yX3_told : MethodName := ⟨RX3, "told", "(II)I"⟩
abbrev cX3_nails : ByteArray := prog_1_method_8_code
def yX3_nails : MethodName := ⟨RX3, "nails", "(III)I"⟩
abbrev cX3_keep : ByteArray := prog_1_method_9_code
def yX3_keep : MethodName := ⟨RX3, "keep", "(II)I"⟩
abbrev cX3_fogger : ByteArray := prog_1_method_10_code
def yX3_fogger : MethodName := ⟨RX3, "fogger", "(II)I"⟩
abbrev cX3_count : ByteArray := prog_1_method_11_code
def yX3_count : MethodName := ⟨RX3, "count", "(I)I"⟩
abbrev cX3_pass : ByteArray := prog_1_method_12_code
def yX3_pass : MethodName := ⟨RX3, "pass", "(I)I"⟩
abbrev cX3_rate : ByteArray := prog_1_method_13_code
def yX3_rate : MethodName := ⟨RX3, "rate", "(I)I"⟩
abbrev cX3_when : ByteArray := prog_1_method_14_code
def yX3_when : MethodName := ⟨RX3, "when", "(II)I"⟩
abbrev cX3_foresee : ByteArray := prog_1_method_15_code
def yX3_foresee : MethodName := ⟨RX3, "foresee", "(II)I"⟩
abbrev cX3_advise : ByteArray := prog_1_method_16_code
def yX3_advise : MethodName := ⟨RX3, "advise", "(II)I"⟩
abbrev cX3_richest : ByteArray := prog_1_method_17_code
def yX3_richest : MethodName := ⟨RX3, "richest", "()I"⟩
abbrev cX3_mean : ByteArray := prog_1_method_18_code
def yX3_mean : MethodName := ⟨RX3, "mean", "()D"⟩
abbrev cX3_digest : ByteArray := prog_1_method_19_code
def yX3_digest : MethodName := ⟨RX3, "digest", "()J"⟩
abbrev cX3_needNailer : ByteArray := prog_1_method_20_code
def yX3_needNailer : MethodName := ⟨RX3, "needNailer", "(I)V"⟩
abbrev cX3_needIndex : ByteArray := prog_1_method_21_code
def yX3_needIndex : MethodName := ⟨RX3, "needIndex", "(II)V"⟩
abbrev cX3_needWithin : ByteArray := prog_1_method_22_code
def yX3_needWithin : MethodName := ⟨RX3, "needWithin", "(III)V"⟩
def RX4 : String := "NailRodsModel"
def TX4 : u_T := fun k => match k with
  | 0 => ("NailRodsModel", "thrown", "I", false)
  | 1 => ("NailRodsModel", "hour", "I", false)
  | 2 => ("NailRodsModel", "many", "I", false)
  | 3 => ("NailRodsModel", "n", "[I", false)
  | 4 => ("NailRodsModel", "f", "[I", false)
  | 5 => ("NailRodsModel", "nAhead", "[I", false)
  | 6 => ("NailRodsModel", "fAhead", "[I", false)
  | _ => ("NailRodsModel", "worths", "[I", true)
def tyX4 : Nat → FieldType := fun k => match k with
  | 0 => .int
  | 1 => .int
  | 2 => .int
  | 3 => .array .int
  | 4 => .array .int
  | 5 => .array .int
  | 6 => .array .int
  | _ => .array .int
abbrev wsX40 : List Cond := u_ws RX4 TX4 8
theorem nmX4 : ∀ a, a < 8 → ∀ b, b < 8 → a ≠ b → (TX4 a).2.1 ≠ (TX4 b).2.1 := by decide +kernel
theorem tyX4_ok : ∀ k, k < 8 → parseFieldDescriptor (TX4 k).2.2.1 = some (tyX4 k) := by decide +kernel
abbrev cX4_thrown : ByteArray := prog_6_method_1_code
def yX4_thrown : MethodName := ⟨RX4, "thrown", "()I"⟩
abbrev cX4_no : ByteArray := prog_6_method_2_code
def yX4_no : MethodName := ⟨RX4, "no", "(I)I"⟩
abbrev cX4_isIn : ByteArray := prog_6_method_3_code
def yX4_isIn : MethodName := ⟨RX4, "isIn", "(III)Z"⟩
abbrev cX4_init : ByteArray := prog_6_method_4_code
def yX4_init : MethodName := ⟨RX4, "<init>", "()V"⟩
abbrev cX4_isThere : ByteArray := prog_6_method_5_code
def yX4_isThere : MethodName := ⟨RX4, "isThere", "(I)Z"⟩
abbrev cX4_isFour : ByteArray := prog_6_method_6_code
def yX4_isFour : MethodName := ⟨RX4, "isFour", "(I)Z"⟩
abbrev cX4_work : ByteArray := prog_6_method_7_code
def yX4_work : MethodName := ⟨RX4, "work", "([II)I"⟩
abbrev cX4_hasIron : ByteArray := prog_6_method_8_code
def yX4_hasIron : MethodName := ⟨RX4, "hasIron", "([II)Z"⟩
abbrev cX4_priceOf : ByteArray := prog_6_method_9_code
def yX4_priceOf : MethodName := ⟨RX4, "priceOf", "(II)I"⟩
abbrev cX4_reckon : ByteArray := prog_6_method_10_code
def yX4_reckon : MethodName := ⟨RX4, "reckon", "([I[II[I)V"⟩
abbrev cX4_pass : ByteArray := prog_6_method_11_code
def yX4_pass : MethodName := ⟨RX4, "pass", "([I[II)I"⟩
abbrev cX4_lookAhead : ByteArray := prog_6_method_12_code
def yX4_lookAhead : MethodName := ⟨RX4, "lookAhead", "()V"⟩
abbrev cX4_passAhead : ByteArray := prog_6_method_13_code
def yX4_passAhead : MethodName := ⟨RX4, "passAhead", "(I)V"⟩
abbrev cX4_nailer : ByteArray := prog_6_method_14_code
def yX4_nailer : MethodName := ⟨RX4, "nailer", "(III)I"⟩
abbrev cX4_lend : ByteArray := prog_6_method_15_code
def yX4_lend : MethodName := ⟨RX4, "lend", "(II)I"⟩
abbrev cX4_coal : ByteArray := prog_6_method_16_code
def yX4_coal : MethodName := ⟨RX4, "coal", "(II)I"⟩
abbrev cX4_put : ByteArray := prog_6_method_17_code
def yX4_put : MethodName := ⟨RX4, "put", "(II)I"⟩
abbrev cX4_make : ByteArray := prog_6_method_18_code
def yX4_make : MethodName := ⟨RX4, "make", "(II)I"⟩
abbrev cX4_change : ByteArray := prog_6_method_19_code
def yX4_change : MethodName := ⟨RX4, "change", "(II)I"⟩
abbrev cX4_told : ByteArray := prog_6_method_20_code
def yX4_told : MethodName := ⟨RX4, "told", "(II)I"⟩
abbrev cX4_nails : ByteArray := prog_6_method_21_code
def yX4_nails : MethodName := ⟨RX4, "nails", "(III)I"⟩
abbrev cX4_keep : ByteArray := prog_6_method_22_code
def yX4_keep : MethodName := ⟨RX4, "keep", "(II)I"⟩
abbrev cX4_nailersOf : ByteArray := prog_6_method_23_code
def yX4_nailersOf : MethodName := ⟨RX4, "nailersOf", "(I)I"⟩
abbrev cX4_foggerTold : ByteArray := prog_6_method_24_code
def yX4_foggerTold : MethodName := ⟨RX4, "foggerTold", "(II)I"⟩
abbrev cX4_fogger : ByteArray := prog_6_method_25_code
def yX4_fogger : MethodName := ⟨RX4, "fogger", "(II)I"⟩
abbrev cX4_sum : ByteArray := prog_6_method_26_code
def yX4_sum : MethodName := ⟨RX4, "sum", "([II)I"⟩
abbrev cX4_sumOfFour : ByteArray := prog_6_method_27_code
def yX4_sumOfFour : MethodName := ⟨RX4, "sumOfFour", "([II)I"⟩
abbrev cX4_hot : ByteArray := prog_6_method_28_code
def yX4_hot : MethodName := ⟨RX4, "hot", "()I"⟩
abbrev cX4_bought : ByteArray := prog_6_method_29_code
def yX4_bought : MethodName := ⟨RX4, "bought", "([I)I"⟩
abbrev cX4_summed : ByteArray := prog_6_method_30_code
def yX4_summed : MethodName := ⟨RX4, "summed", "([I[II)I"⟩
abbrev cX4_counted : ByteArray := prog_6_method_31_code
def yX4_counted : MethodName := ⟨RX4, "counted", "(I)I"⟩
abbrev cX4_count : ByteArray := prog_6_method_32_code
def yX4_count : MethodName := ⟨RX4, "count", "(I)I"⟩
abbrev cX4_pass_ : ByteArray := prog_6_method_33_code
def yX4_pass_ : MethodName := ⟨RX4, "pass", "(I)I"⟩
abbrev cX4_rate : ByteArray := prog_6_method_34_code
def yX4_rate : MethodName := ⟨RX4, "rate", "(I)I"⟩
abbrev cX4_when : ByteArray := prog_6_method_35_code
def yX4_when : MethodName := ⟨RX4, "when", "(II)I"⟩
abbrev cX4_foresee : ByteArray := prog_6_method_36_code
def yX4_foresee : MethodName := ⟨RX4, "foresee", "(II)I"⟩
abbrev cX4_worthOf : ByteArray := prog_6_method_37_code
def yX4_worthOf : MethodName := ⟨RX4, "worthOf", "(III)I"⟩
abbrev cX4_advise : ByteArray := prog_6_method_38_code
def yX4_advise : MethodName := ⟨RX4, "advise", "(II)I"⟩
abbrev cX4_richest : ByteArray := prog_6_method_39_code
def yX4_richest : MethodName := ⟨RX4, "richest", "()I"⟩
abbrev cX4_wealth : ByteArray := prog_6_method_40_code
def yX4_wealth : MethodName := ⟨RX4, "wealth", "(I)I"⟩
abbrev cX4_mean : ByteArray := prog_6_method_41_code
def yX4_mean : MethodName := ⟨RX4, "mean", "()D"⟩
abbrev cX4_digest : ByteArray := prog_6_method_42_code
def yX4_digest : MethodName := ⟨RX4, "digest", "()J"⟩
def RJ9 : String := "java/lang/Math"
def TJ9 : u_T := fun k => match k with
  | _ => ("", "", "", false)
def tyJ9 : Nat → FieldType := fun k => match k with
  | _ => .int
abbrev wsJ90 : List Cond := u_ws RJ9 TJ9 0
theorem nmJ9 : ∀ a, a < 0 → ∀ b, b < 0 → a ≠ b → (TJ9 a).2.1 ≠ (TJ9 b).2.1 := by decide +kernel
theorem tyJ9_ok : ∀ k, k < 0 → parseFieldDescriptor (TJ9 k).2.2.1 = some (tyJ9 k) := by decide +kernel
abbrev cJ9_max_7cf53 : ByteArray := prog_11_method_65_code
def yJ9_max_7cf53 : MethodName := ⟨RJ9, "max", "(II)I"⟩
abbrev cJ9_min_7cf53 : ByteArray := prog_11_method_69_code
def yJ9_min_7cf53 : MethodName := ⟨RJ9, "min", "(II)I"⟩
def RJ0 : String := "java/lang/String"
def TJ0 : u_T := fun k => match k with
  | _ => ("", "", "", false)
def tyJ0 : Nat → FieldType := fun k => match k with
  | _ => .int
abbrev wsJ00 : List Cond := u_ws RJ0 TJ0 0
theorem nmJ0 : ∀ a, a < 0 → ∀ b, b < 0 → a ≠ b → (TJ0 a).2.1 ≠ (TJ0 b).2.1 := by decide +kernel
theorem tyJ0_ok : ∀ k, k < 0 → parseFieldDescriptor (TJ0 k).2.2.1 = some (tyJ0 k) := by decide +kernel
def RJ10 : String := "java/lang/System"
def TJ10 : u_T := fun k => match k with
  | _ => ("", "", "", false)
def tyJ10 : Nat → FieldType := fun k => match k with
  | _ => .int
abbrev wsJ100 : List Cond := u_ws RJ10 TJ10 0
theorem nmJ10 : ∀ a, a < 0 → ∀ b, b < 0 → a ≠ b → (TJ10 a).2.1 ≠ (TJ10 b).2.1 := by decide +kernel
theorem tyJ10_ok : ∀ k, k < 0 → parseFieldDescriptor (TJ10 k).2.2.1 = some (tyJ10 k) := by decide +kernel
def RL : String := "NailRodsLaw"
abbrev cL_nailer : ByteArray := method_3_code
def yL_nailer : MethodName := ⟨RL, "nailer", "(LNailRods;III[J)I"⟩
abbrev cL_lend : ByteArray := method_4_code
def yL_lend : MethodName := ⟨RL, "lend", "(LNailRods;II[J)I"⟩
abbrev cL_coal : ByteArray := method_5_code
def yL_coal : MethodName := ⟨RL, "coal", "(LNailRods;II[J)I"⟩
abbrev cL_make : ByteArray := method_6_code
def yL_make : MethodName := ⟨RL, "make", "(LNailRods;II[J)I"⟩
abbrev cL_change : ByteArray := method_7_code
def yL_change : MethodName := ⟨RL, "change", "(LNailRods;II[J)I"⟩
abbrev cL_told : ByteArray := method_8_code
def yL_told : MethodName := ⟨RL, "told", "(LNailRods;II[J)I"⟩
abbrev cL_nails : ByteArray := method_9_code
def yL_nails : MethodName := ⟨RL, "nails", "(LNailRods;III[J)I"⟩
abbrev cL_keep : ByteArray := method_10_code
def yL_keep : MethodName := ⟨RL, "keep", "(LNailRods;II[J)I"⟩
abbrev cL_fogger : ByteArray := method_11_code
def yL_fogger : MethodName := ⟨RL, "fogger", "(LNailRods;II[J)I"⟩
abbrev cL_count : ByteArray := method_12_code
def yL_count : MethodName := ⟨RL, "count", "(LNailRods;I[J)I"⟩
abbrev cL_pass : ByteArray := method_13_code
def yL_pass : MethodName := ⟨RL, "pass", "(LNailRods;I[J)I"⟩
abbrev cL_rate : ByteArray := method_14_code
def yL_rate : MethodName := ⟨RL, "rate", "(LNailRods;I[J)I"⟩
abbrev cL_when : ByteArray := method_15_code
def yL_when : MethodName := ⟨RL, "when", "(LNailRods;II[J)I"⟩
abbrev cL_foresee : ByteArray := method_16_code
def yL_foresee : MethodName := ⟨RL, "foresee", "(LNailRods;II[J)I"⟩
abbrev cL_advise : ByteArray := method_17_code
def yL_advise : MethodName := ⟨RL, "advise", "(LNailRods;II[J)I"⟩
abbrev cL_law : ByteArray := code
def yL_law : MethodName := ⟨RL, "law", "([I)Z"⟩
abbrev vwCl : List vw_C := [(RX0, TX0, 6), (RX1, TX1, 14), (RX2, TX2, 4), (RX3, TX3, 3), (RX4, TX4, 8)]
end
section
/-! THE TABLES' WORDS, one by one, by their places: gtb holds all that stay good for every callee -/
def gtb : List Cond := lw_tbl.filter goodWord
theorem gtb_hts {args : Array Value} {s : State} (h : ∀ w ∈ lw_tbl, w.before args s = true) : ∀ w ∈ gtb, w.before args s = true := fun w hw => h w (List.mem_filter.mp hw).1
theorem gt0 {w : Cond} (i : Nat) (h : (k2_sels lw_privs)[i]? = some w) (hg : goodWord w = true) : w ∈ gtb := List.mem_filter.mpr ⟨List.mem_append_left _ (List.mem_of_getElem? h), hg⟩
theorem gt1 {w : Cond} (i : Nat) (h : tables_1_1[i]? = some w) (hg : goodWord w = true) : w ∈ gtb := List.mem_filter.mpr ⟨List.mem_append_right _ (List.mem_append_left _ (List.mem_of_getElem? h)), hg⟩
theorem gt2 {w : Cond} (i : Nat) (h : tables_1_2[i]? = some w) (hg : goodWord w = true) : w ∈ gtb := List.mem_filter.mpr ⟨List.mem_append_right _ (List.mem_append_right _ (List.mem_append_left _ (List.mem_of_getElem? h))), hg⟩
theorem gt3 {w : Cond} (i : Nat) (h : tables_1_3[i]? = some w) (hg : goodWord w = true) : w ∈ gtb := List.mem_filter.mpr ⟨List.mem_append_right _ (List.mem_append_right _ (List.mem_append_right _ (List.mem_of_getElem? h))), hg⟩
/-- a method's words: its code, and the tables' -/
theorem gtb_in {w0 w1 : Cond} (h : w1 ∈ gtb) : GoodIn (w0 :: gtb) (w1 :: gtb) := by
  intro w hw
  have key : ∀ w ∈ gtb, w ∈ w0 :: gtb ∧ ((w.onTables && w.keeps) = true ∨ ∃ ty, w = .arrayClass ty) := fun w hw => ⟨List.mem_cons_of_mem _ hw, good_of_word (List.mem_filter.mp hw).2⟩
  rcases List.mem_cons.mp hw with rfl | hw
  · exact key _ h
  · exact key _ hw
theorem gtb_law {w1 : Cond} (h : w1 ∈ gtb) : GoodIn lw_tbl (w1 :: gtb) := by
  intro w hw
  have key : ∀ w ∈ gtb, w ∈ lw_tbl ∧ ((w.onTables && w.keeps) = true ∨ ∃ ty, w = .arrayClass ty) := fun w hw => ⟨(List.mem_filter.mp hw).1, good_of_word (List.mem_filter.mp hw).2⟩
  rcases List.mem_cons.mp hw with rfl | hw
  · exact key _ h
  · exact key _ hw
theorem k_0 : Cond.initialized RL ∈ gtb := gt1 0 (by decide +kernel) rfl
theorem k_1 : Cond.initialized RX3 ∈ gtb := gt1 1 (by decide +kernel) rfl
theorem k_2 : Cond.initialized RX2 ∈ gtb := gt1 2 (by decide +kernel) rfl
theorem k_3 : Cond.initialized RX1 ∈ gtb := gt1 3 (by decide +kernel) rfl
theorem k_4 : Cond.initialized RX0 ∈ gtb := gt1 4 (by decide +kernel) rfl
theorem k_5 : Cond.initialized RX4 ∈ gtb := gt1 5 (by decide +kernel) rfl
theorem k_6 : Cond.initialized "java/lang/Throwable" ∈ gtb := gt1 6 (by decide +kernel) rfl
theorem k_7 : Cond.initialized "java/lang/Exception" ∈ gtb := gt1 7 (by decide +kernel) rfl
theorem k_8 : Cond.initialized "java/lang/RuntimeException" ∈ gtb := gt1 8 (by decide +kernel) rfl
theorem k_9 : Cond.initialized "java/lang/IndexOutOfBoundsException" ∈ gtb := gt1 9 (by decide +kernel) rfl
theorem k_10 : Cond.initialized "java/lang/IllegalArgumentException" ∈ gtb := gt1 10 (by decide +kernel) rfl
theorem k_11 : Cond.initialized "java/lang/IllegalStateException" ∈ gtb := gt1 11 (by decide +kernel) rfl
theorem k_12 : Cond.initialized "java/lang/Math" ∈ gtb := gt1 12 (by decide +kernel) rfl
theorem k_13 : Cond.initialized "java/lang/System" ∈ gtb := gt1 13 (by decide +kernel) rfl
theorem k_14 : Cond.classLink RL 8 RX3 ∈ gtb := gt1 14 (by decide +kernel) rfl
theorem k_15 : Cond.instantiable RX3 3 ∈ gtb := gt1 15 (by decide +kernel) rfl
theorem k_16 : Cond.methodLink RL 63 yX3_init ∈ gtb := gt1 16 (by decide +kernel) rfl
theorem k_17 : Cond.instanceMethod yX3_init ∈ gtb := gt1 17 (by decide +kernel) rfl
theorem k_18 : Cond.code yX3_init cX3_init 1 none ∈ gtb := gt1 18 (by decide +kernel) rfl
theorem k_19 : Cond.methodLink RX3 1 objectInit ∈ gtb := gt1 19 (by decide +kernel) rfl
theorem k_20 : Cond.instanceMethod objectInit ∈ gtb := gt1 20 (by decide +kernel) rfl
theorem k_21 : Cond.code objectInit object_method_1_code 1 none ∈ gtb := gt1 21 (by decide +kernel) rfl
theorem k_22 : Cond.classLink RX3 7 RX2 ∈ gtb := gt1 22 (by decide +kernel) rfl
theorem k_23 : Cond.instantiable RX2 4 ∈ gtb := gt1 23 (by decide +kernel) rfl
theorem k_25 : Cond.instanceMethod yX2_init ∈ gtb := gt1 25 (by decide +kernel) rfl
theorem k_26 : Cond.code yX2_init cX2_init 2 none ∈ gtb := gt1 26 (by decide +kernel) rfl
theorem k_27 : Cond.methodLink RX2 3 objectInit ∈ gtb := gt1 27 (by decide +kernel) rfl
theorem k_28 : Cond.classLink RX2 9 RX1 ∈ gtb := gt1 28 (by decide +kernel) rfl
theorem k_30 : Cond.instantiable RX1 14 ∈ gtb := gt1 30 (by decide +kernel) rfl
theorem k_32 : Cond.instanceMethod yX1_init ∈ gtb := gt1 32 (by decide +kernel) rfl
theorem k_33 : Cond.code yX1_init cX1_init 1 none ∈ gtb := gt1 33 (by decide +kernel) rfl
theorem k_34 : Cond.methodLink RX1 3 objectInit ∈ gtb := gt1 34 (by decide +kernel) rfl
theorem k_35 : Cond.fieldLink RX1 25 "NailRods$Nailer" "skill" "I" ∈ gtb := gt1 35 (by decide +kernel) rfl
theorem k_36 : Cond.fieldLink RX1 28 "NailRods$Nailer" "kind" "I" ∈ gtb := gt1 36 (by decide +kernel) rfl
theorem k_38 : Cond.fieldLink RX1 31 "NailRods$Nailer" "fogger" "I" ∈ gtb := gt1 38 (by decide +kernel) rfl
theorem k_41 : Cond.fieldLink RX1 34 "NailRods$Nailer" "rods" "I" ∈ gtb := gt1 41 (by decide +kernel) rfl
theorem k_43 : Cond.fieldLink RX1 37 "NailRods$Nailer" "ounces" "I" ∈ gtb := gt1 43 (by decide +kernel) rfl
theorem k_44 : Cond.fieldLink RX1 40 "NailRods$Nailer" "heat" "I" ∈ gtb := gt1 44 (by decide +kernel) rfl
theorem k_46 : Cond.fieldLink RX1 9 "NailRods$Nailer" "coal" "I" ∈ gtb := gt1 46 (by decide +kernel) rfl
theorem k_48 : Cond.fieldLink RX1 15 "NailRods$Nailer" "coins" "I" ∈ gtb := gt1 48 (by decide +kernel) rfl
theorem k_52 : Cond.fieldLink RX1 43 "NailRods$Nailer" "owed" "I" ∈ gtb := gt1 52 (by decide +kernel) rfl
theorem k_54 : Cond.fieldLink RX1 46 "NailRods$Nailer" "scrap" "I" ∈ gtb := gt1 54 (by decide +kernel) rfl
theorem k_55 : Cond.fieldLink RX1 49 "NailRods$Nailer" "burnt" "I" ∈ gtb := gt1 55 (by decide +kernel) rfl
theorem k_56 : Cond.fieldLink RX1 52 "NailRods$Nailer" "good" "I" ∈ gtb := gt1 56 (by decide +kernel) rfl
theorem k_57 : Cond.fieldLink RX1 18 "NailRods$Nailer" "loose" "[I" ∈ gtb := gt1 57 (by decide +kernel) rfl
theorem k_59 : Cond.fieldLink RX1 22 "NailRods$Nailer" "bags" "[I" ∈ gtb := gt1 59 (by decide +kernel) rfl
theorem k_62 : Cond.lays "NailRods$Nailer" "NailRods$Nailer" "skill" "I" ∈ gtb := gt1 62 (by decide +kernel) rfl
theorem k_64 : Cond.lays "NailRods$Nailer" "NailRods$Nailer" "kind" "I" ∈ gtb := gt1 64 (by decide +kernel) rfl
theorem k_66 : Cond.lays "NailRods$Nailer" "NailRods$Nailer" "fogger" "I" ∈ gtb := gt1 66 (by decide +kernel) rfl
theorem k_68 : Cond.lays "NailRods$Nailer" "NailRods$Nailer" "rods" "I" ∈ gtb := gt1 68 (by decide +kernel) rfl
theorem k_70 : Cond.lays "NailRods$Nailer" "NailRods$Nailer" "ounces" "I" ∈ gtb := gt1 70 (by decide +kernel) rfl
theorem k_72 : Cond.lays "NailRods$Nailer" "NailRods$Nailer" "heat" "I" ∈ gtb := gt1 72 (by decide +kernel) rfl
theorem k_74 : Cond.lays "NailRods$Nailer" "NailRods$Nailer" "coal" "I" ∈ gtb := gt1 74 (by decide +kernel) rfl
theorem k_76 : Cond.lays "NailRods$Nailer" "NailRods$Nailer" "coins" "I" ∈ gtb := gt1 76 (by decide +kernel) rfl
theorem k_78 : Cond.lays "NailRods$Nailer" "NailRods$Nailer" "owed" "I" ∈ gtb := gt1 78 (by decide +kernel) rfl
theorem k_80 : Cond.lays "NailRods$Nailer" "NailRods$Nailer" "scrap" "I" ∈ gtb := gt1 80 (by decide +kernel) rfl
theorem k_82 : Cond.lays "NailRods$Nailer" "NailRods$Nailer" "burnt" "I" ∈ gtb := gt1 82 (by decide +kernel) rfl
theorem k_84 : Cond.lays "NailRods$Nailer" "NailRods$Nailer" "good" "I" ∈ gtb := gt1 84 (by decide +kernel) rfl
theorem k_86 : Cond.laysFinal "NailRods$Nailer" "NailRods$Nailer" "loose" "[I" ∈ gtb := gt1 86 (by decide +kernel) rfl
theorem k_88 : Cond.laysFinal "NailRods$Nailer" "NailRods$Nailer" "bags" "[I" ∈ gtb := gt1 88 (by decide +kernel) rfl
theorem k_91 : Cond.arrayClass FieldType.int ∈ gtb := gt1 91 (by decide +kernel) rfl
theorem k_92 : Cond.classLink RX2 18 RX0 ∈ gtb := gt1 92 (by decide +kernel) rfl
theorem k_94 : Cond.instantiable RX0 6 ∈ gtb := gt1 94 (by decide +kernel) rfl
theorem k_96 : Cond.instanceMethod yX0_init ∈ gtb := gt1 96 (by decide +kernel) rfl
theorem k_97 : Cond.code yX0_init cX0_init 1 none ∈ gtb := gt1 97 (by decide +kernel) rfl
theorem k_98 : Cond.methodLink RX0 3 objectInit ∈ gtb := gt1 98 (by decide +kernel) rfl
theorem k_99 : Cond.fieldLink RX0 9 "NailRods$Fogger" "keptBack" "I" ∈ gtb := gt1 99 (by decide +kernel) rfl
theorem k_102 : Cond.fieldLink RX0 15 "NailRods$Fogger" "coins" "I" ∈ gtb := gt1 102 (by decide +kernel) rfl
theorem k_104 : Cond.fieldLink RX0 18 "NailRods$Fogger" "bought" "I" ∈ gtb := gt1 104 (by decide +kernel) rfl
theorem k_106 : Cond.fieldLink RX0 21 "NailRods$Fogger" "paid" "I" ∈ gtb := gt1 106 (by decide +kernel) rfl
theorem k_108 : Cond.fieldLink RX0 24 "NailRods$Fogger" "earned" "I" ∈ gtb := gt1 108 (by decide +kernel) rfl
theorem k_110 : Cond.fieldLink RX0 27 "NailRods$Fogger" "loadWorth" "I" ∈ gtb := gt1 110 (by decide +kernel) rfl
theorem k_111 : Cond.lays "NailRods$Fogger" "NailRods$Fogger" "keptBack" "I" ∈ gtb := gt1 111 (by decide +kernel) rfl
theorem k_113 : Cond.lays "NailRods$Fogger" "NailRods$Fogger" "coins" "I" ∈ gtb := gt1 113 (by decide +kernel) rfl
theorem k_115 : Cond.lays "NailRods$Fogger" "NailRods$Fogger" "bought" "I" ∈ gtb := gt1 115 (by decide +kernel) rfl
theorem k_117 : Cond.lays "NailRods$Fogger" "NailRods$Fogger" "paid" "I" ∈ gtb := gt1 117 (by decide +kernel) rfl
theorem k_119 : Cond.lays "NailRods$Fogger" "NailRods$Fogger" "earned" "I" ∈ gtb := gt1 119 (by decide +kernel) rfl
theorem k_121 : Cond.lays "NailRods$Fogger" "NailRods$Fogger" "loadWorth" "I" ∈ gtb := gt1 121 (by decide +kernel) rfl
theorem k_124 : Cond.fieldLink RX2 25 "NailRods$Trade" "hour" "I" ∈ gtb := gt1 124 (by decide +kernel) rfl
theorem k_125 : Cond.fieldLink RX2 29 "NailRods$Trade" "nailerCount" "I" ∈ gtb := gt1 125 (by decide +kernel) rfl
theorem k_127 : Cond.fieldLink RX2 11 "NailRods$Trade" "nailers" "[LNailRods$Nailer;" ∈ gtb := gt1 127 (by decide +kernel) rfl
theorem k_129 : Cond.fieldLink RX2 20 "NailRods$Trade" "foggers" "[LNailRods$Fogger;" ∈ gtb := gt1 129 (by decide +kernel) rfl
theorem k_131 : Cond.lays "NailRods$Trade" "NailRods$Trade" "hour" "I" ∈ gtb := gt1 131 (by decide +kernel) rfl
theorem k_133 : Cond.lays "NailRods$Trade" "NailRods$Trade" "nailerCount" "I" ∈ gtb := gt1 133 (by decide +kernel) rfl
theorem k_135 : Cond.laysFinal "NailRods$Trade" "NailRods$Trade" "nailers" "[LNailRods$Nailer;" ∈ gtb := gt1 135 (by decide +kernel) rfl
theorem k_137 : Cond.laysFinal "NailRods$Trade" "NailRods$Trade" "foggers" "[LNailRods$Fogger;" ∈ gtb := gt1 137 (by decide +kernel) rfl
theorem k_140 : Cond.classLink RX3 19 RX1 ∈ gtb := gt1 140 (by decide +kernel) rfl
theorem k_142 : Cond.fieldLink RX3 10 "NailRods" "trade" "LNailRods$Trade;" ∈ gtb := gt1 142 (by decide +kernel) rfl
theorem k_143 : Cond.fieldLink RX3 16 "NailRods" "foreseen" "LNailRods$Trade;" ∈ gtb := gt1 143 (by decide +kernel) rfl
theorem k_144 : Cond.fieldLink RX3 22 "NailRods" "trial" "LNailRods$Nailer;" ∈ gtb := gt1 144 (by decide +kernel) rfl
theorem k_145 : Cond.laysFinal "NailRods" "NailRods" "trade" "LNailRods$Trade;" ∈ gtb := gt1 145 (by decide +kernel) rfl
theorem k_147 : Cond.laysFinal "NailRods" "NailRods" "foreseen" "LNailRods$Trade;" ∈ gtb := gt1 147 (by decide +kernel) rfl
theorem k_149 : Cond.laysFinal "NailRods" "NailRods" "trial" "LNailRods$Nailer;" ∈ gtb := gt1 149 (by decide +kernel) rfl
theorem k_152 : Cond.methodLink RL 121 yX3_richest ∈ gtb := gt1 152 (by decide +kernel) rfl
theorem k_153 : Cond.instanceMethod yX3_richest ∈ gtb := gt1 153 (by decide +kernel) rfl
theorem k_154 : Cond.selects RX3 yX3_richest yX3_richest ∈ gtb := gt1 154 (by decide +kernel) rfl
theorem k_155 : Cond.code yX3_richest cX3_richest 5 (some FieldType.int) ∈ gtb := gt1 155 (by decide +kernel) rfl
theorem k_156 : Cond.methodLink RL 125 yX3_mean ∈ gtb := gt1 156 (by decide +kernel) rfl
theorem k_157 : Cond.instanceMethod yX3_mean ∈ gtb := gt1 157 (by decide +kernel) rfl
theorem k_158 : Cond.selects RX3 yX3_mean yX3_mean ∈ gtb := gt1 158 (by decide +kernel) rfl
theorem k_159 : Cond.code yX3_mean cX3_mean 3 (some FieldType.double) ∈ gtb := gt1 159 (by decide +kernel) rfl
theorem k_160 : Cond.methodLink RL 130 yX3_digest ∈ gtb := gt1 160 (by decide +kernel) rfl
theorem k_161 : Cond.instanceMethod yX3_digest ∈ gtb := gt1 161 (by decide +kernel) rfl
theorem k_162 : Cond.selects RX3 yX3_digest yX3_digest ∈ gtb := gt1 162 (by decide +kernel) rfl
theorem k_163 : Cond.code yX3_digest cX3_digest 5 (some FieldType.long) ∈ gtb := gt1 163 (by decide +kernel) rfl
theorem k_164 : Cond.constantLong RX3 131 1259 ∈ gtb := gt1 164 (by decide +kernel) rfl
theorem k_165 : Cond.constantLong RX3 133 31 ∈ gtb := gt1 165 (by decide +kernel) rfl
theorem k_168 : Cond.instanceMethod yX2_total ∈ gtb := gt1 168 (by decide +kernel) rfl
theorem k_169 : Cond.code yX2_total cX2_total 2 (some FieldType.int) ∈ gtb := gt1 169 (by decide +kernel) rfl
theorem k_170 : Cond.methodLink RX2 61 yX2_warehouseBags ∈ gtb := gt1 170 (by decide +kernel) rfl
theorem k_172 : Cond.instanceMethod yX2_warehouseBags ∈ gtb := gt1 172 (by decide +kernel) rfl
theorem k_173 : Cond.code yX2_warehouseBags cX2_warehouseBags 3 (some FieldType.int) ∈ gtb := gt1 173 (by decide +kernel) rfl
theorem k_174 : Cond.methodLink RX2 64 yX2_sumOfShares ∈ gtb := gt1 174 (by decide +kernel) rfl
theorem k_176 : Cond.instanceMethod yX2_sumOfShares ∈ gtb := gt1 176 (by decide +kernel) rfl
theorem k_177 : Cond.code yX2_sumOfShares cX2_sumOfShares 4 (some FieldType.int) ∈ gtb := gt1 177 (by decide +kernel) rfl
theorem k_180 : Cond.instanceMethod yX1_shareOfTotal ∈ gtb := gt1 180 (by decide +kernel) rfl
theorem k_181 : Cond.code yX1_shareOfTotal cX1_shareOfTotal 2 (some FieldType.int) ∈ gtb := gt1 181 (by decide +kernel) rfl
theorem k_182 : Cond.methodLink RX1 85 yX1_sumOf ∈ gtb := gt1 182 (by decide +kernel) rfl
theorem k_183 : Cond.static yX1_sumOf ∈ gtb := gt1 183 (by decide +kernel) rfl
theorem k_184 : Cond.code yX1_sumOf cX1_sumOf 6 (some FieldType.int) ∈ gtb := gt1 184 (by decide +kernel) rfl
theorem k_187 : Cond.instanceMethod yX1_addToDigest ∈ gtb := gt1 187 (by decide +kernel) rfl
theorem k_188 : Cond.code yX1_addToDigest cX1_addToDigest 6 (some FieldType.long) ∈ gtb := gt1 188 (by decide +kernel) rfl
theorem k_189 : Cond.constantLong RX1 89 31 ∈ gtb := gt1 189 (by decide +kernel) rfl
theorem k_190 : Cond.methodLink RX1 91 yX1_number ∈ gtb := gt1 190 (by decide +kernel) rfl
theorem k_192 : Cond.instanceMethod yX1_number ∈ gtb := gt1 192 (by decide +kernel) rfl
theorem k_193 : Cond.code yX1_number cX1_number 2 (some FieldType.int) ∈ gtb := gt1 193 (by decide +kernel) rfl
theorem k_196 : Cond.instanceMethod yX2_foggerNumber ∈ gtb := gt1 196 (by decide +kernel) rfl
theorem k_197 : Cond.code yX2_foggerNumber cX2_foggerNumber 3 (some FieldType.int) ∈ gtb := gt1 197 (by decide +kernel) rfl
theorem k_198 : Cond.methodLink RX2 80 yX2_workersFor ∈ gtb := gt1 198 (by decide +kernel) rfl
theorem k_200 : Cond.instanceMethod yX2_workersFor ∈ gtb := gt1 200 (by decide +kernel) rfl
theorem k_201 : Cond.code yX2_workersFor cX2_workersFor 4 (some FieldType.int) ∈ gtb := gt1 201 (by decide +kernel) rfl
theorem k_202 : Cond.methodLink RL 67 yL_nailer ∈ gtb := gt1 202 (by decide +kernel) rfl
theorem k_203 : Cond.static yL_nailer ∈ gtb := gt1 203 (by decide +kernel) rfl
theorem k_204 : Cond.codeWith yL_nailer cL_nailer 6 (some FieldType.int) [(0, 12, 15, 13), (0, 12, 19, 15), (0, 12, 23, 17)] ∈ gtb := gt1 204 (by decide +kernel) rfl
theorem k_205 : Cond.classLink RL 13 "java/lang/IndexOutOfBoundsException" ∈ gtb := gt1 205 (by decide +kernel) rfl
theorem k_206 : Cond.classLink RL 15 "java/lang/IllegalArgumentException" ∈ gtb := gt1 206 (by decide +kernel) rfl
theorem k_207 : Cond.classLink RL 17 "java/lang/IllegalStateException" ∈ gtb := gt1 207 (by decide +kernel) rfl
theorem k_208 : Cond.methodLink RL 7 yX3_nailer ∈ gtb := gt1 208 (by decide +kernel) rfl
theorem k_209 : Cond.instanceMethod yX3_nailer ∈ gtb := gt1 209 (by decide +kernel) rfl
theorem k_210 : Cond.selects RX3 yX3_nailer yX3_nailer ∈ gtb := gt1 210 (by decide +kernel) rfl
theorem k_211 : Cond.code yX3_nailer cX3_nailer 5 (some FieldType.int) ∈ gtb := gt1 211 (by decide +kernel) rfl
theorem k_212 : Cond.methodLink RX3 26 yX3_needIndex ∈ gtb := gt1 212 (by decide +kernel) rfl
theorem k_213 : Cond.static yX3_needIndex ∈ gtb := gt1 213 (by decide +kernel) rfl
theorem k_214 : Cond.code yX3_needIndex cX3_needIndex 2 none ∈ gtb := gt1 214 (by decide +kernel) rfl
theorem k_215 : Cond.classLink RX3 117 "java/lang/IndexOutOfBoundsException" ∈ gtb := gt1 215 (by decide +kernel) rfl
theorem k_216 : Cond.instantiable "java/lang/IndexOutOfBoundsException" 6 ∈ gtb := gt1 216 (by decide +kernel) rfl
theorem k_224 : Cond.selects "java/lang/IndexOutOfBoundsException" ⟨"java/lang/Throwable", "fillInStackTrace", "(I)Ljava/lang/Throwable;"⟩ ⟨"java/lang/Throwable", "fillInStackTrace", "(I)Ljava/lang/Throwable;"⟩ ∈ gtb := gt1 224 (by decide +kernel) rfl
theorem k_225 : Cond.selects "java/lang/IndexOutOfBoundsException" ⟨"java/lang/Throwable", "fillInStackTrace", "()Ljava/lang/Throwable;"⟩ ⟨"java/lang/Throwable", "fillInStackTrace", "()Ljava/lang/Throwable;"⟩ ∈ gtb := gt1 225 (by decide +kernel) rfl
theorem k_226 : Cond.lays "java/lang/IndexOutOfBoundsException" "java/lang/Throwable" "cause" "Ljava/lang/Throwable;" ∈ gtb := gt1 226 (by decide +kernel) rfl
theorem k_227 : Cond.lays "java/lang/Throwable" "java/lang/Throwable" "cause" "Ljava/lang/Throwable;" ∈ gtb := gt1 227 (by decide +kernel) rfl
theorem k_228 : Cond.lays "java/lang/IndexOutOfBoundsException" "java/lang/Throwable" "stackTrace" "[Ljava/lang/StackTraceElement;" ∈ gtb := gt1 228 (by decide +kernel) rfl
theorem k_229 : Cond.lays "java/lang/Throwable" "java/lang/Throwable" "stackTrace" "[Ljava/lang/StackTraceElement;" ∈ gtb := gt1 229 (by decide +kernel) rfl
theorem k_230 : Cond.lays "java/lang/IndexOutOfBoundsException" "java/lang/Throwable" "suppressedExceptions" "Ljava/util/List;" ∈ gtb := gt1 230 (by decide +kernel) rfl
theorem k_231 : Cond.lays "java/lang/Throwable" "java/lang/Throwable" "suppressedExceptions" "Ljava/util/List;" ∈ gtb := gt1 231 (by decide +kernel) rfl
theorem k_232 : Cond.lays "java/lang/IndexOutOfBoundsException" "java/lang/Throwable" "detailMessage" "Ljava/lang/String;" ∈ gtb := gt1 232 (by decide +kernel) rfl
theorem k_233 : Cond.lays "java/lang/Throwable" "java/lang/Throwable" "detailMessage" "Ljava/lang/String;" ∈ gtb := gt1 233 (by decide +kernel) rfl
theorem k_234 : Cond.lays "java/lang/IndexOutOfBoundsException" "java/lang/Throwable" "backtrace" "Ljava/lang/Object;" ∈ gtb := gt1 234 (by decide +kernel) rfl
theorem k_235 : Cond.lays "java/lang/Throwable" "java/lang/Throwable" "backtrace" "Ljava/lang/Object;" ∈ gtb := gt1 235 (by decide +kernel) rfl
theorem k_236 : Cond.fieldLink "java/lang/Throwable" 198 "java/lang/Throwable" "backtrace" "Ljava/lang/Object;" ∈ gtb := gt1 236 (by decide +kernel) rfl
theorem k_238 : Cond.instanceMethod ⟨"java/lang/Throwable", "<init>", "()V"⟩ ∈ gtb := gt1 238 (by decide +kernel) rfl
theorem k_239 : Cond.code ⟨"java/lang/Throwable", "<init>", "()V"⟩ prog_15_method_1_code 1 none ∈ gtb := gt1 239 (by decide +kernel) rfl
theorem k_240 : Cond.methodLink "java/lang/Throwable" 1 objectInit ∈ gtb := gt2 0 (by decide +kernel) rfl
theorem k_241 : Cond.fieldLink "java/lang/Throwable" 13 "java/lang/Throwable" "UNASSIGNED_STACK" "[Ljava/lang/StackTraceElement;" ∈ gtb := gt2 1 (by decide +kernel) rfl
theorem k_243 : Cond.fieldLink "java/lang/Throwable" 20 "java/lang/Throwable" "SUPPRESSED_SENTINEL" "Ljava/util/List;" ∈ gtb := gt2 3 (by decide +kernel) rfl
theorem k_245 : Cond.methodLink "java/lang/Throwable" 27 ⟨"java/lang/Throwable", "fillInStackTrace", "()Ljava/lang/Throwable;"⟩ ∈ gtb := gt2 5 (by decide +kernel) rfl
theorem k_246 : Cond.instanceMethod ⟨"java/lang/Throwable", "fillInStackTrace", "()Ljava/lang/Throwable;"⟩ ∈ gtb := gt2 6 (by decide +kernel) rfl
theorem k_248 : Cond.selects "java/lang/IllegalArgumentException" ⟨"java/lang/Throwable", "fillInStackTrace", "()Ljava/lang/Throwable;"⟩ ⟨"java/lang/Throwable", "fillInStackTrace", "()Ljava/lang/Throwable;"⟩ ∈ gtb := gt2 8 (by decide +kernel) rfl
theorem k_249 : Cond.selects "java/lang/IllegalStateException" ⟨"java/lang/Throwable", "fillInStackTrace", "()Ljava/lang/Throwable;"⟩ ⟨"java/lang/Throwable", "fillInStackTrace", "()Ljava/lang/Throwable;"⟩ ∈ gtb := gt2 9 (by decide +kernel) rfl
theorem k_251 : Cond.methodLink "java/lang/Throwable" 202 ⟨"java/lang/Throwable", "fillInStackTrace", "(I)Ljava/lang/Throwable;"⟩ ∈ gtb := gt2 11 (by decide +kernel) rfl
theorem k_253 : Cond.instanceMethod ⟨"java/lang/Throwable", "fillInStackTrace", "(I)Ljava/lang/Throwable;"⟩ ∈ gtb := gt2 13 (by decide +kernel) rfl
theorem k_254 : Cond.instantiable "java/lang/Throwable" 6 ∈ gtb := gt2 14 (by decide +kernel) rfl
theorem k_255 : Cond.native ⟨"java/lang/Throwable", "fillInStackTrace", "(I)Ljava/lang/Throwable;"⟩ ∈ gtb := gt2 15 (by decide +kernel) rfl
theorem k_257 : Cond.methodLink RX3 121 ⟨"java/lang/IndexOutOfBoundsException", "<init>", "(Ljava/lang/String;)V"⟩ ∈ gtb := gt2 17 (by decide +kernel) rfl
theorem k_258 : Cond.instanceMethod ⟨"java/lang/IndexOutOfBoundsException", "<init>", "(Ljava/lang/String;)V"⟩ ∈ gtb := gt2 18 (by decide +kernel) rfl
theorem k_259 : Cond.code ⟨"java/lang/IndexOutOfBoundsException", "<init>", "(Ljava/lang/String;)V"⟩ prog_10_method_2_code 2 none ∈ gtb := gt2 19 (by decide +kernel) rfl
theorem k_260 : Cond.methodLink "java/lang/IndexOutOfBoundsException" 7 ⟨"java/lang/RuntimeException", "<init>", "(Ljava/lang/String;)V"⟩ ∈ gtb := gt2 20 (by decide +kernel) rfl
theorem k_261 : Cond.instanceMethod ⟨"java/lang/RuntimeException", "<init>", "(Ljava/lang/String;)V"⟩ ∈ gtb := gt2 21 (by decide +kernel) rfl
theorem k_262 : Cond.code ⟨"java/lang/RuntimeException", "<init>", "(Ljava/lang/String;)V"⟩ prog_12_method_2_code 2 none ∈ gtb := gt2 22 (by decide +kernel) rfl
theorem k_263 : Cond.methodLink "java/lang/RuntimeException" 7 ⟨"java/lang/Exception", "<init>", "(Ljava/lang/String;)V"⟩ ∈ gtb := gt2 23 (by decide +kernel) rfl
theorem k_264 : Cond.instanceMethod ⟨"java/lang/Exception", "<init>", "(Ljava/lang/String;)V"⟩ ∈ gtb := gt2 24 (by decide +kernel) rfl
theorem k_265 : Cond.code ⟨"java/lang/Exception", "<init>", "(Ljava/lang/String;)V"⟩ prog_7_method_2_code 2 none ∈ gtb := gt2 25 (by decide +kernel) rfl
theorem k_266 : Cond.methodLink "java/lang/Exception" 7 ⟨"java/lang/Throwable", "<init>", "(Ljava/lang/String;)V"⟩ ∈ gtb := gt2 26 (by decide +kernel) rfl
theorem k_267 : Cond.instanceMethod ⟨"java/lang/Throwable", "<init>", "(Ljava/lang/String;)V"⟩ ∈ gtb := gt2 27 (by decide +kernel) rfl
theorem k_268 : Cond.code ⟨"java/lang/Throwable", "<init>", "(Ljava/lang/String;)V"⟩ prog_15_method_2_code 2 none ∈ gtb := gt2 28 (by decide +kernel) rfl
theorem k_270 : Cond.fieldLink "java/lang/Throwable" 31 "java/lang/Throwable" "detailMessage" "Ljava/lang/String;" ∈ gtb := gt2 30 (by decide +kernel) rfl
theorem k_271 : Cond.fieldLink "java/lang/Throwable" 7 "java/lang/Throwable" "cause" "Ljava/lang/Throwable;" ∈ gtb := gt2 31 (by decide +kernel) rfl
theorem k_272 : Cond.fieldLink "java/lang/Throwable" 17 "java/lang/Throwable" "stackTrace" "[Ljava/lang/StackTraceElement;" ∈ gtb := gt2 32 (by decide +kernel) rfl
theorem k_273 : Cond.fieldLink "java/lang/Throwable" 24 "java/lang/Throwable" "suppressedExceptions" "Ljava/util/List;" ∈ gtb := gt2 33 (by decide +kernel) rfl
theorem k_278 : Cond.lays "java/lang/IndexOutOfBoundsException" "java/lang/Throwable" "depth" "I" ∈ gtb := gt2 38 (by decide +kernel) rfl
theorem k_282 : Cond.arrayClass FieldType.byte ∈ gtb := gt2 42 (by decide +kernel) rfl
theorem k_283 : Cond.methodLink RX3 30 yX3_needWithin ∈ gtb := gt2 43 (by decide +kernel) rfl
theorem k_284 : Cond.static yX3_needWithin ∈ gtb := gt2 44 (by decide +kernel) rfl
theorem k_285 : Cond.code yX3_needWithin cX3_needWithin 3 none ∈ gtb := gt2 45 (by decide +kernel) rfl
theorem k_286 : Cond.classLink RX3 141 "java/lang/IllegalArgumentException" ∈ gtb := gt2 46 (by decide +kernel) rfl
theorem k_287 : Cond.instantiable "java/lang/IllegalArgumentException" 6 ∈ gtb := gt2 47 (by decide +kernel) rfl
theorem k_289 : Cond.selects "java/lang/IllegalArgumentException" ⟨"java/lang/Throwable", "fillInStackTrace", "(I)Ljava/lang/Throwable;"⟩ ⟨"java/lang/Throwable", "fillInStackTrace", "(I)Ljava/lang/Throwable;"⟩ ∈ gtb := gt2 49 (by decide +kernel) rfl
theorem k_290 : Cond.lays "java/lang/IllegalArgumentException" "java/lang/Throwable" "cause" "Ljava/lang/Throwable;" ∈ gtb := gt2 50 (by decide +kernel) rfl
theorem k_291 : Cond.lays "java/lang/IllegalArgumentException" "java/lang/Throwable" "stackTrace" "[Ljava/lang/StackTraceElement;" ∈ gtb := gt2 51 (by decide +kernel) rfl
theorem k_292 : Cond.lays "java/lang/IllegalArgumentException" "java/lang/Throwable" "suppressedExceptions" "Ljava/util/List;" ∈ gtb := gt2 52 (by decide +kernel) rfl
theorem k_293 : Cond.lays "java/lang/IllegalArgumentException" "java/lang/Throwable" "detailMessage" "Ljava/lang/String;" ∈ gtb := gt2 53 (by decide +kernel) rfl
theorem k_294 : Cond.lays "java/lang/IllegalArgumentException" "java/lang/Throwable" "backtrace" "Ljava/lang/Object;" ∈ gtb := gt2 54 (by decide +kernel) rfl
theorem k_296 : Cond.methodLink RX3 145 ⟨"java/lang/IllegalArgumentException", "<init>", "(Ljava/lang/String;)V"⟩ ∈ gtb := gt2 56 (by decide +kernel) rfl
theorem k_297 : Cond.instanceMethod ⟨"java/lang/IllegalArgumentException", "<init>", "(Ljava/lang/String;)V"⟩ ∈ gtb := gt2 57 (by decide +kernel) rfl
theorem k_298 : Cond.code ⟨"java/lang/IllegalArgumentException", "<init>", "(Ljava/lang/String;)V"⟩ prog_8_method_2_code 2 none ∈ gtb := gt2 58 (by decide +kernel) rfl
theorem k_299 : Cond.methodLink "java/lang/IllegalArgumentException" 7 ⟨"java/lang/RuntimeException", "<init>", "(Ljava/lang/String;)V"⟩ ∈ gtb := gt2 59 (by decide +kernel) rfl
theorem k_300 : Cond.lays "java/lang/IllegalArgumentException" "java/lang/Throwable" "depth" "I" ∈ gtb := gt2 60 (by decide +kernel) rfl
theorem k_302 : Cond.classLink RX3 38 "java/lang/IllegalStateException" ∈ gtb := gt2 62 (by decide +kernel) rfl
theorem k_303 : Cond.instantiable "java/lang/IllegalStateException" 6 ∈ gtb := gt2 63 (by decide +kernel) rfl
theorem k_305 : Cond.selects "java/lang/IllegalStateException" ⟨"java/lang/Throwable", "fillInStackTrace", "(I)Ljava/lang/Throwable;"⟩ ⟨"java/lang/Throwable", "fillInStackTrace", "(I)Ljava/lang/Throwable;"⟩ ∈ gtb := gt2 65 (by decide +kernel) rfl
theorem k_306 : Cond.lays "java/lang/IllegalStateException" "java/lang/Throwable" "cause" "Ljava/lang/Throwable;" ∈ gtb := gt2 66 (by decide +kernel) rfl
theorem k_307 : Cond.lays "java/lang/IllegalStateException" "java/lang/Throwable" "stackTrace" "[Ljava/lang/StackTraceElement;" ∈ gtb := gt2 67 (by decide +kernel) rfl
theorem k_308 : Cond.lays "java/lang/IllegalStateException" "java/lang/Throwable" "suppressedExceptions" "Ljava/util/List;" ∈ gtb := gt2 68 (by decide +kernel) rfl
theorem k_309 : Cond.lays "java/lang/IllegalStateException" "java/lang/Throwable" "detailMessage" "Ljava/lang/String;" ∈ gtb := gt2 69 (by decide +kernel) rfl
theorem k_310 : Cond.lays "java/lang/IllegalStateException" "java/lang/Throwable" "backtrace" "Ljava/lang/Object;" ∈ gtb := gt2 70 (by decide +kernel) rfl
theorem k_312 : Cond.methodLink RX3 42 ⟨"java/lang/IllegalStateException", "<init>", "(Ljava/lang/String;)V"⟩ ∈ gtb := gt2 72 (by decide +kernel) rfl
theorem k_313 : Cond.instanceMethod ⟨"java/lang/IllegalStateException", "<init>", "(Ljava/lang/String;)V"⟩ ∈ gtb := gt2 73 (by decide +kernel) rfl
theorem k_314 : Cond.code ⟨"java/lang/IllegalStateException", "<init>", "(Ljava/lang/String;)V"⟩ prog_9_method_2_code 2 none ∈ gtb := gt2 74 (by decide +kernel) rfl
theorem k_315 : Cond.methodLink "java/lang/IllegalStateException" 7 ⟨"java/lang/RuntimeException", "<init>", "(Ljava/lang/String;)V"⟩ ∈ gtb := gt2 75 (by decide +kernel) rfl
theorem k_316 : Cond.lays "java/lang/IllegalStateException" "java/lang/Throwable" "depth" "I" ∈ gtb := gt2 76 (by decide +kernel) rfl
theorem k_320 : Cond.instanceMethod yX1_begin ∈ gtb := gt2 80 (by decide +kernel) rfl
theorem k_321 : Cond.code yX1_begin cX1_begin 4 none ∈ gtb := gt2 81 (by decide +kernel) rfl
theorem k_322 : Cond.methodLink RL 77 yL_lend ∈ gtb := gt2 82 (by decide +kernel) rfl
theorem k_323 : Cond.static yL_lend ∈ gtb := gt2 83 (by decide +kernel) rfl
theorem k_324 : Cond.codeWith yL_lend cL_lend 5 (some FieldType.int) [(0, 10, 13, 13), (0, 10, 17, 15), (0, 10, 21, 17)] ∈ gtb := gt2 84 (by decide +kernel) rfl
theorem k_325 : Cond.methodLink RL 19 yX3_lend ∈ gtb := gt2 85 (by decide +kernel) rfl
theorem k_326 : Cond.instanceMethod yX3_lend ∈ gtb := gt2 86 (by decide +kernel) rfl
theorem k_327 : Cond.selects RX3 yX3_lend yX3_lend ∈ gtb := gt2 87 (by decide +kernel) rfl
theorem k_328 : Cond.code yX3_lend cX3_lend 5 (some FieldType.int) ∈ gtb := gt2 88 (by decide +kernel) rfl
theorem k_329 : Cond.methodLink RX3 52 yX3_needNailer ∈ gtb := gt2 89 (by decide +kernel) rfl
theorem k_331 : Cond.instanceMethod yX3_needNailer ∈ gtb := gt2 91 (by decide +kernel) rfl
theorem k_332 : Cond.code yX3_needNailer cX3_needNailer 2 none ∈ gtb := gt2 92 (by decide +kernel) rfl
theorem k_334 : Cond.methodLink RL 81 yL_coal ∈ gtb := gt2 94 (by decide +kernel) rfl
theorem k_335 : Cond.static yL_coal ∈ gtb := gt2 95 (by decide +kernel) rfl
theorem k_336 : Cond.codeWith yL_coal cL_coal 5 (some FieldType.int) [(0, 10, 13, 13), (0, 10, 17, 15), (0, 10, 21, 17)] ∈ gtb := gt2 96 (by decide +kernel) rfl
theorem k_337 : Cond.methodLink RL 23 yX3_coal ∈ gtb := gt2 97 (by decide +kernel) rfl
theorem k_338 : Cond.instanceMethod yX3_coal ∈ gtb := gt2 98 (by decide +kernel) rfl
theorem k_339 : Cond.selects RX3 yX3_coal yX3_coal ∈ gtb := gt2 99 (by decide +kernel) rfl
theorem k_340 : Cond.code yX3_coal cX3_coal 5 (some FieldType.int) ∈ gtb := gt2 100 (by decide +kernel) rfl
theorem k_342 : Cond.methodLink RL 84 yL_make ∈ gtb := gt2 102 (by decide +kernel) rfl
theorem k_343 : Cond.static yL_make ∈ gtb := gt2 103 (by decide +kernel) rfl
theorem k_344 : Cond.codeWith yL_make cL_make 5 (some FieldType.int) [(0, 10, 13, 13)] ∈ gtb := gt2 104 (by decide +kernel) rfl
theorem k_345 : Cond.methodLink RL 26 yX3_make ∈ gtb := gt2 105 (by decide +kernel) rfl
theorem k_346 : Cond.instanceMethod yX3_make ∈ gtb := gt2 106 (by decide +kernel) rfl
theorem k_347 : Cond.selects RX3 yX3_make yX3_make ∈ gtb := gt2 107 (by decide +kernel) rfl
theorem k_348 : Cond.code yX3_make cX3_make 4 (some FieldType.int) ∈ gtb := gt2 108 (by decide +kernel) rfl
theorem k_349 : Cond.methodLink RL 87 yL_change ∈ gtb := gt2 109 (by decide +kernel) rfl
theorem k_350 : Cond.static yL_change ∈ gtb := gt2 110 (by decide +kernel) rfl
theorem k_351 : Cond.codeWith yL_change cL_change 5 (some FieldType.int) [(0, 10, 13, 13), (0, 10, 17, 17)] ∈ gtb := gt2 111 (by decide +kernel) rfl
theorem k_352 : Cond.methodLink RL 29 yX3_change ∈ gtb := gt2 112 (by decide +kernel) rfl
theorem k_353 : Cond.instanceMethod yX3_change ∈ gtb := gt2 113 (by decide +kernel) rfl
theorem k_354 : Cond.selects RX3 yX3_change yX3_change ∈ gtb := gt2 114 (by decide +kernel) rfl
theorem k_355 : Cond.code yX3_change cX3_change 5 (some FieldType.int) ∈ gtb := gt2 115 (by decide +kernel) rfl
theorem k_357 : Cond.methodLink RL 90 yL_told ∈ gtb := gt2 117 (by decide +kernel) rfl
theorem k_358 : Cond.static yL_told ∈ gtb := gt2 118 (by decide +kernel) rfl
theorem k_359 : Cond.codeWith yL_told cL_told 5 (some FieldType.int) [(0, 10, 13, 13)] ∈ gtb := gt2 119 (by decide +kernel) rfl
theorem k_360 : Cond.methodLink RL 32 yX3_told ∈ gtb := gt2 120 (by decide +kernel) rfl
theorem k_361 : Cond.instanceMethod yX3_told ∈ gtb := gt2 121 (by decide +kernel) rfl
theorem k_362 : Cond.selects RX3 yX3_told yX3_told ∈ gtb := gt2 122 (by decide +kernel) rfl
theorem k_363 : Cond.code yX3_told cX3_told 3 (some FieldType.int) ∈ gtb := gt2 123 (by decide +kernel) rfl
theorem k_365 : Cond.methodLink RL 93 yL_nails ∈ gtb := gt2 125 (by decide +kernel) rfl
theorem k_366 : Cond.static yL_nails ∈ gtb := gt2 126 (by decide +kernel) rfl
theorem k_367 : Cond.codeWith yL_nails cL_nails 6 (some FieldType.int) [(0, 12, 15, 13)] ∈ gtb := gt2 127 (by decide +kernel) rfl
theorem k_368 : Cond.methodLink RL 35 yX3_nails ∈ gtb := gt2 128 (by decide +kernel) rfl
theorem k_369 : Cond.instanceMethod yX3_nails ∈ gtb := gt2 129 (by decide +kernel) rfl
theorem k_370 : Cond.selects RX3 yX3_nails yX3_nails ∈ gtb := gt2 130 (by decide +kernel) rfl
theorem k_371 : Cond.code yX3_nails cX3_nails 5 (some FieldType.int) ∈ gtb := gt2 131 (by decide +kernel) rfl
theorem k_372 : Cond.methodLink RL 96 yL_keep ∈ gtb := gt2 132 (by decide +kernel) rfl
theorem k_373 : Cond.static yL_keep ∈ gtb := gt2 133 (by decide +kernel) rfl
theorem k_374 : Cond.codeWith yL_keep cL_keep 5 (some FieldType.int) [(0, 10, 13, 13), (0, 10, 17, 15)] ∈ gtb := gt2 134 (by decide +kernel) rfl
theorem k_375 : Cond.methodLink RL 38 yX3_keep ∈ gtb := gt2 135 (by decide +kernel) rfl
theorem k_376 : Cond.instanceMethod yX3_keep ∈ gtb := gt2 136 (by decide +kernel) rfl
theorem k_377 : Cond.selects RX3 yX3_keep yX3_keep ∈ gtb := gt2 137 (by decide +kernel) rfl
theorem k_378 : Cond.code yX3_keep cX3_keep 4 (some FieldType.int) ∈ gtb := gt2 138 (by decide +kernel) rfl
theorem k_379 : Cond.methodLink RL 99 yL_fogger ∈ gtb := gt2 139 (by decide +kernel) rfl
theorem k_380 : Cond.static yL_fogger ∈ gtb := gt2 140 (by decide +kernel) rfl
theorem k_381 : Cond.codeWith yL_fogger cL_fogger 5 (some FieldType.int) [(0, 10, 13, 13)] ∈ gtb := gt2 141 (by decide +kernel) rfl
theorem k_382 : Cond.methodLink RL 41 yX3_fogger ∈ gtb := gt2 142 (by decide +kernel) rfl
theorem k_383 : Cond.instanceMethod yX3_fogger ∈ gtb := gt2 143 (by decide +kernel) rfl
theorem k_384 : Cond.selects RX3 yX3_fogger yX3_fogger ∈ gtb := gt2 144 (by decide +kernel) rfl
theorem k_385 : Cond.code yX3_fogger cX3_fogger 3 (some FieldType.int) ∈ gtb := gt2 145 (by decide +kernel) rfl
theorem k_386 : Cond.methodLink RL 102 yL_count ∈ gtb := gt2 146 (by decide +kernel) rfl
theorem k_387 : Cond.static yL_count ∈ gtb := gt2 147 (by decide +kernel) rfl
theorem k_388 : Cond.codeWith yL_count cL_count 4 (some FieldType.int) [(0, 9, 12, 13)] ∈ gtb := gt2 148 (by decide +kernel) rfl
theorem k_389 : Cond.methodLink RL 44 yX3_count ∈ gtb := gt2 149 (by decide +kernel) rfl
theorem k_390 : Cond.instanceMethod yX3_count ∈ gtb := gt2 150 (by decide +kernel) rfl
theorem k_391 : Cond.selects RX3 yX3_count yX3_count ∈ gtb := gt2 151 (by decide +kernel) rfl
theorem k_392 : Cond.code yX3_count cX3_count 2 (some FieldType.int) ∈ gtb := gt2 152 (by decide +kernel) rfl
theorem k_393 : Cond.methodLink RL 106 yL_pass ∈ gtb := gt2 153 (by decide +kernel) rfl
theorem k_394 : Cond.static yL_pass ∈ gtb := gt2 154 (by decide +kernel) rfl
theorem k_395 : Cond.codeWith yL_pass cL_pass 4 (some FieldType.int) [(0, 9, 12, 15)] ∈ gtb := gt2 155 (by decide +kernel) rfl
theorem k_396 : Cond.methodLink RL 48 yX3_pass ∈ gtb := gt2 156 (by decide +kernel) rfl
theorem k_397 : Cond.instanceMethod yX3_pass ∈ gtb := gt2 157 (by decide +kernel) rfl
theorem k_398 : Cond.selects RX3 yX3_pass yX3_pass ∈ gtb := gt2 158 (by decide +kernel) rfl
theorem k_399 : Cond.code yX3_pass cX3_pass 2 (some FieldType.int) ∈ gtb := gt2 159 (by decide +kernel) rfl
theorem k_402 : Cond.instanceMethod yX2_goBy ∈ gtb := gt2 162 (by decide +kernel) rfl
theorem k_403 : Cond.code yX2_goBy cX2_goBy 4 (some FieldType.int) ∈ gtb := gt2 163 (by decide +kernel) rfl
theorem k_404 : Cond.methodLink RX2 39 yX2_goByOne ∈ gtb := gt2 164 (by decide +kernel) rfl
theorem k_406 : Cond.instanceMethod yX2_goByOne ∈ gtb := gt2 166 (by decide +kernel) rfl
theorem k_407 : Cond.code yX2_goByOne cX2_goByOne 3 (some FieldType.int) ∈ gtb := gt2 167 (by decide +kernel) rfl
theorem k_410 : Cond.instanceMethod yX1_workHour ∈ gtb := gt2 170 (by decide +kernel) rfl
theorem k_411 : Cond.code yX1_workHour cX1_workHour 3 (some FieldType.int) ∈ gtb := gt2 171 (by decide +kernel) rfl
theorem k_412 : Cond.methodLink RX1 59 yX1_tendFire ∈ gtb := gt2 172 (by decide +kernel) rfl
theorem k_414 : Cond.instanceMethod yX1_tendFire ∈ gtb := gt2 174 (by decide +kernel) rfl
theorem k_415 : Cond.code yX1_tendFire cX1_tendFire 1 none ∈ gtb := gt2 175 (by decide +kernel) rfl
theorem k_416 : Cond.methodLink RX1 70 Lib.Math.min.name ∈ gtb := gt2 176 (by decide +kernel) rfl
theorem k_417 : Cond.static Lib.Math.min.name ∈ gtb := gt2 177 (by decide +kernel) rfl
theorem k_418 : Cond.code Lib.Math.min.name cJ9_min_7cf53 2 (some FieldType.int) ∈ gtb := gt2 178 (by decide +kernel) rfl
theorem k_419 : Cond.methodLink RX1 76 Lib.Math.max.name ∈ gtb := gt2 179 (by decide +kernel) rfl
theorem k_420 : Cond.static Lib.Math.max.name ∈ gtb := gt2 180 (by decide +kernel) rfl
theorem k_421 : Cond.code Lib.Math.max.name cJ9_max_7cf53 2 (some FieldType.int) ∈ gtb := gt2 181 (by decide +kernel) rfl
theorem k_422 : Cond.methodLink RX1 62 yX1_head ∈ gtb := gt2 182 (by decide +kernel) rfl
theorem k_424 : Cond.instanceMethod yX1_head ∈ gtb := gt2 184 (by decide +kernel) rfl
theorem k_425 : Cond.code yX1_head cX1_head 3 (some FieldType.int) ∈ gtb := gt2 185 (by decide +kernel) rfl
theorem k_426 : Cond.methodLink RX1 79 yX1_headFromHand ∈ gtb := gt2 186 (by decide +kernel) rfl
theorem k_428 : Cond.instanceMethod yX1_headFromHand ∈ gtb := gt2 188 (by decide +kernel) rfl
theorem k_429 : Cond.code yX1_headFromHand cX1_headFromHand 3 (some FieldType.int) ∈ gtb := gt2 189 (by decide +kernel) rfl
theorem k_432 : Cond.methodLink RX1 66 yX1_store ∈ gtb := gt2 192 (by decide +kernel) rfl
theorem k_434 : Cond.instanceMethod yX1_store ∈ gtb := gt2 194 (by decide +kernel) rfl
theorem k_435 : Cond.code yX1_store cX1_store 2 none ∈ gtb := gt2 195 (by decide +kernel) rfl
theorem k_436 : Cond.methodLink RX2 46 yX2_reckonWeek ∈ gtb := gt2 196 (by decide +kernel) rfl
theorem k_438 : Cond.instanceMethod yX2_reckonWeek ∈ gtb := gt2 198 (by decide +kernel) rfl
theorem k_439 : Cond.code yX2_reckonWeek cX2_reckonWeek 3 none ∈ gtb := gt2 199 (by decide +kernel) rfl
theorem k_442 : Cond.instanceMethod yX0_buyBags ∈ gtb := gt2 202 (by decide +kernel) rfl
theorem k_443 : Cond.code yX0_buyBags cX0_buyBags 4 none ∈ gtb := gt2 203 (by decide +kernel) rfl
theorem k_448 : Cond.instanceMethod yX0_collectDebt ∈ gtb := gt2 208 (by decide +kernel) rfl
theorem k_449 : Cond.code yX0_collectDebt cX0_collectDebt 3 none ∈ gtb := gt2 209 (by decide +kernel) rfl
theorem k_450 : Cond.methodLink RX0 43 Lib.Math.min.name ∈ gtb := gt2 210 (by decide +kernel) rfl
theorem k_453 : Cond.instanceMethod yX0_deliver ∈ gtb := gt2 213 (by decide +kernel) rfl
theorem k_454 : Cond.code yX0_deliver cX0_deliver 1 none ∈ gtb := gt2 214 (by decide +kernel) rfl
theorem k_455 : Cond.methodLink RL 109 yL_rate ∈ gtb := gt2 215 (by decide +kernel) rfl
theorem k_456 : Cond.static yL_rate ∈ gtb := gt2 216 (by decide +kernel) rfl
theorem k_457 : Cond.codeWith yL_rate cL_rate 4 (some FieldType.int) [(0, 9, 12, 13)] ∈ gtb := gt2 217 (by decide +kernel) rfl
theorem k_458 : Cond.methodLink RL 51 yX3_rate ∈ gtb := gt2 218 (by decide +kernel) rfl
theorem k_459 : Cond.instanceMethod yX3_rate ∈ gtb := gt2 219 (by decide +kernel) rfl
theorem k_460 : Cond.selects RX3 yX3_rate yX3_rate ∈ gtb := gt2 220 (by decide +kernel) rfl
theorem k_461 : Cond.code yX3_rate cX3_rate 2 (some FieldType.int) ∈ gtb := gt2 221 (by decide +kernel) rfl
theorem k_464 : Cond.instanceMethod yX1_copyFrom ∈ gtb := gt2 224 (by decide +kernel) rfl
theorem k_465 : Cond.code yX1_copyFrom cX1_copyFrom 3 none ∈ gtb := gt2 225 (by decide +kernel) rfl
theorem k_468 : Cond.instanceMethod yX1_workHours ∈ gtb := gt2 228 (by decide +kernel) rfl
theorem k_469 : Cond.code yX1_workHours cX1_workHours 4 (some FieldType.int) ∈ gtb := gt2 229 (by decide +kernel) rfl
theorem k_470 : Cond.methodLink RX1 55 yX1_workHour ∈ gtb := gt2 230 (by decide +kernel) rfl
theorem k_471 : Cond.methodLink RL 112 yL_when ∈ gtb := gt2 231 (by decide +kernel) rfl
theorem k_472 : Cond.static yL_when ∈ gtb := gt2 232 (by decide +kernel) rfl
theorem k_473 : Cond.codeWith yL_when cL_when 5 (some FieldType.int) [(0, 10, 13, 13), (0, 10, 17, 15)] ∈ gtb := gt2 233 (by decide +kernel) rfl
theorem k_474 : Cond.methodLink RL 54 yX3_when ∈ gtb := gt2 234 (by decide +kernel) rfl
theorem k_475 : Cond.instanceMethod yX3_when ∈ gtb := gt2 235 (by decide +kernel) rfl
theorem k_476 : Cond.selects RX3 yX3_when yX3_when ∈ gtb := gt2 236 (by decide +kernel) rfl
theorem k_477 : Cond.code yX3_when cX3_when 5 (some FieldType.int) ∈ gtb := gt2 237 (by decide +kernel) rfl
theorem k_478 : Cond.methodLink RL 115 yL_foresee ∈ gtb := gt2 238 (by decide +kernel) rfl
theorem k_479 : Cond.static yL_foresee ∈ gtb := gt2 239 (by decide +kernel) rfl
theorem k_480 : Cond.codeWith yL_foresee cL_foresee 5 (some FieldType.int) [(0, 10, 13, 15), (0, 10, 17, 13)] ∈ gtb := gt3 0 (by decide +kernel) rfl
theorem k_481 : Cond.methodLink RL 57 yX3_foresee ∈ gtb := gt3 1 (by decide +kernel) rfl
theorem k_482 : Cond.instanceMethod yX3_foresee ∈ gtb := gt3 2 (by decide +kernel) rfl
theorem k_483 : Cond.selects RX3 yX3_foresee yX3_foresee ∈ gtb := gt3 3 (by decide +kernel) rfl
theorem k_484 : Cond.code yX3_foresee cX3_foresee 3 (some FieldType.int) ∈ gtb := gt3 4 (by decide +kernel) rfl
theorem k_488 : Cond.instanceMethod yX2_copyFrom ∈ gtb := gt3 8 (by decide +kernel) rfl
theorem k_489 : Cond.code yX2_copyFrom cX2_copyFrom 3 none ∈ gtb := gt3 9 (by decide +kernel) rfl
theorem k_493 : Cond.instanceMethod yX0_copyFrom ∈ gtb := gt3 13 (by decide +kernel) rfl
theorem k_494 : Cond.code yX0_copyFrom cX0_copyFrom 2 none ∈ gtb := gt3 14 (by decide +kernel) rfl
theorem k_495 : Cond.methodLink RL 118 yL_advise ∈ gtb := gt3 15 (by decide +kernel) rfl
theorem k_496 : Cond.static yL_advise ∈ gtb := gt3 16 (by decide +kernel) rfl
theorem k_497 : Cond.codeWith yL_advise cL_advise 5 (some FieldType.int) [(0, 10, 13, 13), (0, 10, 17, 15)] ∈ gtb := gt3 17 (by decide +kernel) rfl
theorem k_498 : Cond.methodLink RL 60 yX3_advise ∈ gtb := gt3 18 (by decide +kernel) rfl
theorem k_499 : Cond.instanceMethod yX3_advise ∈ gtb := gt3 19 (by decide +kernel) rfl
theorem k_500 : Cond.selects RX3 yX3_advise yX3_advise ∈ gtb := gt3 20 (by decide +kernel) rfl
theorem k_501 : Cond.code yX3_advise cX3_advise 7 (some FieldType.int) ∈ gtb := gt3 21 (by decide +kernel) rfl
theorem k_502 : Cond.fieldLink RX3 125 "NailRods" "WORTH" "[I" ∈ gtb := gt3 22 (by decide +kernel) rfl
theorem k_503 : Cond.methodLink RL 73 yX4_thrown ∈ gtb := gt3 23 (by decide +kernel) rfl
theorem k_504 : Cond.instanceMethod yX4_thrown ∈ gtb := gt3 24 (by decide +kernel) rfl
theorem k_505 : Cond.selects RX4 yX4_thrown yX4_thrown ∈ gtb := gt3 25 (by decide +kernel) rfl
theorem k_506 : Cond.code yX4_thrown cX4_thrown 1 (some FieldType.int) ∈ gtb := gt3 26 (by decide +kernel) rfl
theorem k_507 : Cond.classLink RL 64 RX4 ∈ gtb := gt3 27 (by decide +kernel) rfl
theorem k_508 : Cond.instantiable RX4 8 ∈ gtb := gt3 28 (by decide +kernel) rfl
theorem k_509 : Cond.methodLink RL 66 yX4_init ∈ gtb := gt3 29 (by decide +kernel) rfl
theorem k_510 : Cond.instanceMethod yX4_init ∈ gtb := gt3 30 (by decide +kernel) rfl
theorem k_511 : Cond.code yX4_init cX4_init 2 none ∈ gtb := gt3 31 (by decide +kernel) rfl
theorem k_512 : Cond.methodLink RX4 7 objectInit ∈ gtb := gt3 32 (by decide +kernel) rfl
theorem k_513 : Cond.fieldLink RX4 1 "NailRodsModel" "thrown" "I" ∈ gtb := gt3 33 (by decide +kernel) rfl
theorem k_514 : Cond.fieldLink RX4 72 "NailRodsModel" "hour" "I" ∈ gtb := gt3 34 (by decide +kernel) rfl
theorem k_515 : Cond.fieldLink RX4 29 "NailRodsModel" "many" "I" ∈ gtb := gt3 35 (by decide +kernel) rfl
theorem k_516 : Cond.fieldLink RX4 13 "NailRodsModel" "n" "[I" ∈ gtb := gt3 36 (by decide +kernel) rfl
theorem k_517 : Cond.fieldLink RX4 17 "NailRodsModel" "f" "[I" ∈ gtb := gt3 37 (by decide +kernel) rfl
theorem k_518 : Cond.fieldLink RX4 20 "NailRodsModel" "nAhead" "[I" ∈ gtb := gt3 38 (by decide +kernel) rfl
theorem k_519 : Cond.fieldLink RX4 23 "NailRodsModel" "fAhead" "[I" ∈ gtb := gt3 39 (by decide +kernel) rfl
theorem k_520 : Cond.fieldLink RX4 26 "NailRodsModel" "worths" "[I" ∈ gtb := gt3 40 (by decide +kernel) rfl
theorem k_521 : Cond.lays "NailRodsModel" "NailRodsModel" "thrown" "I" ∈ gtb := gt3 41 (by decide +kernel) rfl
theorem k_523 : Cond.lays "NailRodsModel" "NailRodsModel" "hour" "I" ∈ gtb := gt3 43 (by decide +kernel) rfl
theorem k_525 : Cond.lays "NailRodsModel" "NailRodsModel" "many" "I" ∈ gtb := gt3 45 (by decide +kernel) rfl
theorem k_527 : Cond.lays "NailRodsModel" "NailRodsModel" "n" "[I" ∈ gtb := gt3 47 (by decide +kernel) rfl
theorem k_529 : Cond.lays "NailRodsModel" "NailRodsModel" "f" "[I" ∈ gtb := gt3 49 (by decide +kernel) rfl
theorem k_531 : Cond.lays "NailRodsModel" "NailRodsModel" "nAhead" "[I" ∈ gtb := gt3 51 (by decide +kernel) rfl
theorem k_533 : Cond.lays "NailRodsModel" "NailRodsModel" "fAhead" "[I" ∈ gtb := gt3 53 (by decide +kernel) rfl
theorem k_535 : Cond.laysFinal "NailRodsModel" "NailRodsModel" "worths" "[I" ∈ gtb := gt3 55 (by decide +kernel) rfl
theorem k_538 : Cond.methodLink RL 72 yX4_nailer ∈ gtb := gt3 58 (by decide +kernel) rfl
theorem k_539 : Cond.instanceMethod yX4_nailer ∈ gtb := gt3 59 (by decide +kernel) rfl
theorem k_540 : Cond.selects RX4 yX4_nailer yX4_nailer ∈ gtb := gt3 60 (by decide +kernel) rfl
theorem k_541 : Cond.code yX4_nailer cX4_nailer 5 (some FieldType.int) ∈ gtb := gt3 61 (by decide +kernel) rfl
theorem k_542 : Cond.methodLink RX4 79 yX4_isFour ∈ gtb := gt3 62 (by decide +kernel) rfl
theorem k_543 : Cond.static yX4_isFour ∈ gtb := gt3 63 (by decide +kernel) rfl
theorem k_544 : Cond.code yX4_isFour cX4_isFour 1 (some FieldType.boolean) ∈ gtb := gt3 64 (by decide +kernel) rfl
theorem k_545 : Cond.methodLink RX4 32 yX4_isIn ∈ gtb := gt3 65 (by decide +kernel) rfl
theorem k_546 : Cond.static yX4_isIn ∈ gtb := gt3 66 (by decide +kernel) rfl
theorem k_547 : Cond.code yX4_isIn cX4_isIn 3 (some FieldType.boolean) ∈ gtb := gt3 67 (by decide +kernel) rfl
theorem k_548 : Cond.methodLink RX4 83 yX4_no ∈ gtb := gt3 68 (by decide +kernel) rfl
theorem k_550 : Cond.instanceMethod yX4_no ∈ gtb := gt3 70 (by decide +kernel) rfl
theorem k_551 : Cond.code yX4_no cX4_no 2 (some FieldType.int) ∈ gtb := gt3 71 (by decide +kernel) rfl
theorem k_552 : Cond.methodLink RL 80 yX4_lend ∈ gtb := gt3 72 (by decide +kernel) rfl
theorem k_553 : Cond.instanceMethod yX4_lend ∈ gtb := gt3 73 (by decide +kernel) rfl
theorem k_554 : Cond.selects RX4 yX4_lend yX4_lend ∈ gtb := gt3 74 (by decide +kernel) rfl
theorem k_555 : Cond.code yX4_lend cX4_lend 4 (some FieldType.int) ∈ gtb := gt3 75 (by decide +kernel) rfl
theorem k_556 : Cond.methodLink RX4 87 yX4_isThere ∈ gtb := gt3 76 (by decide +kernel) rfl
theorem k_558 : Cond.instanceMethod yX4_isThere ∈ gtb := gt3 78 (by decide +kernel) rfl
theorem k_559 : Cond.code yX4_isThere cX4_isThere 2 (some FieldType.boolean) ∈ gtb := gt3 79 (by decide +kernel) rfl
theorem k_560 : Cond.methodLink RL 83 yX4_coal ∈ gtb := gt3 80 (by decide +kernel) rfl
theorem k_561 : Cond.instanceMethod yX4_coal ∈ gtb := gt3 81 (by decide +kernel) rfl
theorem k_562 : Cond.selects RX4 yX4_coal yX4_coal ∈ gtb := gt3 82 (by decide +kernel) rfl
theorem k_563 : Cond.code yX4_coal cX4_coal 5 (some FieldType.int) ∈ gtb := gt3 83 (by decide +kernel) rfl
theorem k_564 : Cond.methodLink RL 86 yX4_make ∈ gtb := gt3 84 (by decide +kernel) rfl
theorem k_565 : Cond.instanceMethod yX4_make ∈ gtb := gt3 85 (by decide +kernel) rfl
theorem k_566 : Cond.selects RX4 yX4_make yX4_make ∈ gtb := gt3 86 (by decide +kernel) rfl
theorem k_567 : Cond.code yX4_make cX4_make 3 (some FieldType.int) ∈ gtb := gt3 87 (by decide +kernel) rfl
theorem k_568 : Cond.methodLink RX4 90 yX4_put ∈ gtb := gt3 88 (by decide +kernel) rfl
theorem k_570 : Cond.instanceMethod yX4_put ∈ gtb := gt3 90 (by decide +kernel) rfl
theorem k_571 : Cond.code yX4_put cX4_put 4 (some FieldType.int) ∈ gtb := gt3 91 (by decide +kernel) rfl
theorem k_572 : Cond.methodLink RL 89 yX4_change ∈ gtb := gt3 92 (by decide +kernel) rfl
theorem k_573 : Cond.instanceMethod yX4_change ∈ gtb := gt3 93 (by decide +kernel) rfl
theorem k_574 : Cond.selects RX4 yX4_change yX4_change ∈ gtb := gt3 94 (by decide +kernel) rfl
theorem k_575 : Cond.code yX4_change cX4_change 3 (some FieldType.int) ∈ gtb := gt3 95 (by decide +kernel) rfl
theorem k_576 : Cond.methodLink RL 92 yX4_told ∈ gtb := gt3 96 (by decide +kernel) rfl
theorem k_577 : Cond.instanceMethod yX4_told ∈ gtb := gt3 97 (by decide +kernel) rfl
theorem k_578 : Cond.selects RX4 yX4_told yX4_told ∈ gtb := gt3 98 (by decide +kernel) rfl
theorem k_579 : Cond.code yX4_told cX4_told 3 (some FieldType.int) ∈ gtb := gt3 99 (by decide +kernel) rfl
theorem k_580 : Cond.methodLink RL 95 yX4_nails ∈ gtb := gt3 100 (by decide +kernel) rfl
theorem k_581 : Cond.instanceMethod yX4_nails ∈ gtb := gt3 101 (by decide +kernel) rfl
theorem k_582 : Cond.selects RX4 yX4_nails yX4_nails ∈ gtb := gt3 102 (by decide +kernel) rfl
theorem k_583 : Cond.code yX4_nails cX4_nails 4 (some FieldType.int) ∈ gtb := gt3 103 (by decide +kernel) rfl
theorem k_584 : Cond.methodLink RL 98 yX4_keep ∈ gtb := gt3 104 (by decide +kernel) rfl
theorem k_585 : Cond.instanceMethod yX4_keep ∈ gtb := gt3 105 (by decide +kernel) rfl
theorem k_586 : Cond.selects RX4 yX4_keep yX4_keep ∈ gtb := gt3 106 (by decide +kernel) rfl
theorem k_587 : Cond.code yX4_keep cX4_keep 4 (some FieldType.int) ∈ gtb := gt3 107 (by decide +kernel) rfl
theorem k_588 : Cond.methodLink RL 101 yX4_fogger ∈ gtb := gt3 108 (by decide +kernel) rfl
theorem k_589 : Cond.instanceMethod yX4_fogger ∈ gtb := gt3 109 (by decide +kernel) rfl
theorem k_590 : Cond.selects RX4 yX4_fogger yX4_fogger ∈ gtb := gt3 110 (by decide +kernel) rfl
theorem k_591 : Cond.code yX4_fogger cX4_fogger 3 (some FieldType.int) ∈ gtb := gt3 111 (by decide +kernel) rfl
theorem k_592 : Cond.methodLink RX4 96 yX4_foggerTold ∈ gtb := gt3 112 (by decide +kernel) rfl
theorem k_594 : Cond.instanceMethod yX4_foggerTold ∈ gtb := gt3 114 (by decide +kernel) rfl
theorem k_595 : Cond.code yX4_foggerTold cX4_foggerTold 5 (some FieldType.int) ∈ gtb := gt3 115 (by decide +kernel) rfl
theorem k_596 : Cond.methodLink RX4 93 yX4_nailersOf ∈ gtb := gt3 116 (by decide +kernel) rfl
theorem k_598 : Cond.instanceMethod yX4_nailersOf ∈ gtb := gt3 118 (by decide +kernel) rfl
theorem k_599 : Cond.code yX4_nailersOf cX4_nailersOf 4 (some FieldType.int) ∈ gtb := gt3 119 (by decide +kernel) rfl
theorem k_600 : Cond.methodLink RL 105 yX4_count ∈ gtb := gt3 120 (by decide +kernel) rfl
theorem k_601 : Cond.instanceMethod yX4_count ∈ gtb := gt3 121 (by decide +kernel) rfl
theorem k_602 : Cond.selects RX4 yX4_count yX4_count ∈ gtb := gt3 122 (by decide +kernel) rfl
theorem k_603 : Cond.code yX4_count cX4_count 2 (some FieldType.int) ∈ gtb := gt3 123 (by decide +kernel) rfl
theorem k_604 : Cond.methodLink RX4 116 yX4_counted ∈ gtb := gt3 124 (by decide +kernel) rfl
theorem k_606 : Cond.instanceMethod yX4_counted ∈ gtb := gt3 126 (by decide +kernel) rfl
theorem k_607 : Cond.code yX4_counted cX4_counted 2 (some FieldType.int) ∈ gtb := gt3 127 (by decide +kernel) rfl
theorem k_608 : Cond.methodLink RX4 109 yX4_hot ∈ gtb := gt3 128 (by decide +kernel) rfl
theorem k_610 : Cond.instanceMethod yX4_hot ∈ gtb := gt3 130 (by decide +kernel) rfl
theorem k_611 : Cond.code yX4_hot cX4_hot 3 (some FieldType.int) ∈ gtb := gt3 131 (by decide +kernel) rfl
theorem k_612 : Cond.methodLink RX4 113 yX4_summed ∈ gtb := gt3 132 (by decide +kernel) rfl
theorem k_614 : Cond.instanceMethod yX4_summed ∈ gtb := gt3 134 (by decide +kernel) rfl
theorem k_615 : Cond.code yX4_summed cX4_summed 4 (some FieldType.int) ∈ gtb := gt3 135 (by decide +kernel) rfl
theorem k_616 : Cond.methodLink RX4 99 yX4_sum ∈ gtb := gt3 136 (by decide +kernel) rfl
theorem k_618 : Cond.instanceMethod yX4_sum ∈ gtb := gt3 138 (by decide +kernel) rfl
theorem k_619 : Cond.code yX4_sum cX4_sum 5 (some FieldType.int) ∈ gtb := gt3 139 (by decide +kernel) rfl
theorem k_620 : Cond.methodLink RX4 102 yX4_sumOfFour ∈ gtb := gt3 140 (by decide +kernel) rfl
theorem k_622 : Cond.instanceMethod yX4_sumOfFour ∈ gtb := gt3 142 (by decide +kernel) rfl
theorem k_623 : Cond.code yX4_sumOfFour cX4_sumOfFour 3 (some FieldType.int) ∈ gtb := gt3 143 (by decide +kernel) rfl
theorem k_624 : Cond.methodLink RX4 105 yX4_bought ∈ gtb := gt3 144 (by decide +kernel) rfl
theorem k_625 : Cond.static yX4_bought ∈ gtb := gt3 145 (by decide +kernel) rfl
theorem k_626 : Cond.code yX4_bought cX4_bought 1 (some FieldType.int) ∈ gtb := gt3 146 (by decide +kernel) rfl
theorem k_627 : Cond.methodLink RL 108 yX4_pass_ ∈ gtb := gt3 147 (by decide +kernel) rfl
theorem k_628 : Cond.instanceMethod yX4_pass_ ∈ gtb := gt3 148 (by decide +kernel) rfl
theorem k_629 : Cond.selects RX4 yX4_pass_ yX4_pass_ ∈ gtb := gt3 149 (by decide +kernel) rfl
theorem k_630 : Cond.code yX4_pass_ cX4_pass_ 4 (some FieldType.int) ∈ gtb := gt3 150 (by decide +kernel) rfl
theorem k_631 : Cond.methodLink RX4 75 yX4_pass ∈ gtb := gt3 151 (by decide +kernel) rfl
theorem k_633 : Cond.instanceMethod yX4_pass ∈ gtb := gt3 153 (by decide +kernel) rfl
theorem k_634 : Cond.code yX4_pass cX4_pass 6 (some FieldType.int) ∈ gtb := gt3 154 (by decide +kernel) rfl
theorem k_635 : Cond.methodLink RX4 58 yX4_work ∈ gtb := gt3 155 (by decide +kernel) rfl
theorem k_637 : Cond.instanceMethod yX4_work ∈ gtb := gt3 157 (by decide +kernel) rfl
theorem k_638 : Cond.code yX4_work cX4_work 9 (some FieldType.int) ∈ gtb := gt3 158 (by decide +kernel) rfl
theorem k_639 : Cond.methodLink RX4 36 Lib.Math.min.name ∈ gtb := gt3 159 (by decide +kernel) rfl
theorem k_640 : Cond.methodLink RX4 42 Lib.Math.max.name ∈ gtb := gt3 160 (by decide +kernel) rfl
theorem k_641 : Cond.methodLink RX4 45 yX4_hasIron ∈ gtb := gt3 161 (by decide +kernel) rfl
theorem k_643 : Cond.instanceMethod yX4_hasIron ∈ gtb := gt3 163 (by decide +kernel) rfl
theorem k_644 : Cond.code yX4_hasIron cX4_hasIron 3 (some FieldType.boolean) ∈ gtb := gt3 164 (by decide +kernel) rfl
theorem k_645 : Cond.fieldLink RX4 49 "NailRodsModel" "OUNCES" "[I" ∈ gtb := gt3 165 (by decide +kernel) rfl
theorem k_647 : Cond.methodLink RX4 62 yX4_reckon ∈ gtb := gt3 167 (by decide +kernel) rfl
theorem k_649 : Cond.instanceMethod yX4_reckon ∈ gtb := gt3 169 (by decide +kernel) rfl
theorem k_650 : Cond.code yX4_reckon cX4_reckon 10 none ∈ gtb := gt3 170 (by decide +kernel) rfl
theorem k_651 : Cond.methodLink RX4 55 yX4_priceOf ∈ gtb := gt3 171 (by decide +kernel) rfl
theorem k_652 : Cond.static yX4_priceOf ∈ gtb := gt3 172 (by decide +kernel) rfl
theorem k_653 : Cond.code yX4_priceOf cX4_priceOf 2 (some FieldType.int) ∈ gtb := gt3 173 (by decide +kernel) rfl
theorem k_654 : Cond.fieldLink RX4 52 "NailRodsModel" "WORTH" "[I" ∈ gtb := gt3 174 (by decide +kernel) rfl
theorem k_656 : Cond.methodLink RL 111 yX4_rate ∈ gtb := gt3 176 (by decide +kernel) rfl
theorem k_657 : Cond.instanceMethod yX4_rate ∈ gtb := gt3 177 (by decide +kernel) rfl
theorem k_658 : Cond.selects RX4 yX4_rate yX4_rate ∈ gtb := gt3 178 (by decide +kernel) rfl
theorem k_659 : Cond.code yX4_rate cX4_rate 2 (some FieldType.int) ∈ gtb := gt3 179 (by decide +kernel) rfl
theorem k_660 : Cond.methodLink RX4 119 yX4_lookAhead ∈ gtb := gt3 180 (by decide +kernel) rfl
theorem k_662 : Cond.instanceMethod yX4_lookAhead ∈ gtb := gt3 182 (by decide +kernel) rfl
theorem k_663 : Cond.code yX4_lookAhead cX4_lookAhead 1 none ∈ gtb := gt3 183 (by decide +kernel) rfl
theorem k_664 : Cond.methodLink RX4 66 arraycopyName ∈ gtb := gt3 184 (by decide +kernel) rfl
theorem k_665 : Cond.static arraycopyName ∈ gtb := gt3 185 (by decide +kernel) rfl
theorem k_666 : Cond.native arraycopyName ∈ gtb := gt3 186 (by decide +kernel) rfl
theorem k_667 : Cond.methodLink RL 114 yX4_when ∈ gtb := gt3 187 (by decide +kernel) rfl
theorem k_668 : Cond.instanceMethod yX4_when ∈ gtb := gt3 188 (by decide +kernel) rfl
theorem k_669 : Cond.selects RX4 yX4_when yX4_when ∈ gtb := gt3 189 (by decide +kernel) rfl
theorem k_670 : Cond.code yX4_when cX4_when 5 (some FieldType.int) ∈ gtb := gt3 190 (by decide +kernel) rfl
theorem k_671 : Cond.methodLink RL 117 yX4_foresee ∈ gtb := gt3 191 (by decide +kernel) rfl
theorem k_672 : Cond.instanceMethod yX4_foresee ∈ gtb := gt3 192 (by decide +kernel) rfl
theorem k_673 : Cond.selects RX4 yX4_foresee yX4_foresee ∈ gtb := gt3 193 (by decide +kernel) rfl
theorem k_674 : Cond.code yX4_foresee cX4_foresee 3 (some FieldType.int) ∈ gtb := gt3 194 (by decide +kernel) rfl
theorem k_675 : Cond.methodLink RX4 122 yX4_passAhead ∈ gtb := gt3 195 (by decide +kernel) rfl
theorem k_677 : Cond.instanceMethod yX4_passAhead ∈ gtb := gt3 197 (by decide +kernel) rfl
theorem k_678 : Cond.code yX4_passAhead cX4_passAhead 3 none ∈ gtb := gt3 198 (by decide +kernel) rfl
theorem k_679 : Cond.methodLink RL 120 yX4_advise ∈ gtb := gt3 199 (by decide +kernel) rfl
theorem k_680 : Cond.instanceMethod yX4_advise ∈ gtb := gt3 200 (by decide +kernel) rfl
theorem k_681 : Cond.selects RX4 yX4_advise yX4_advise ∈ gtb := gt3 201 (by decide +kernel) rfl
theorem k_682 : Cond.code yX4_advise cX4_advise 5 (some FieldType.int) ∈ gtb := gt3 202 (by decide +kernel) rfl
theorem k_683 : Cond.methodLink RX4 126 yX4_worthOf ∈ gtb := gt3 203 (by decide +kernel) rfl
theorem k_685 : Cond.instanceMethod yX4_worthOf ∈ gtb := gt3 205 (by decide +kernel) rfl
theorem k_686 : Cond.code yX4_worthOf cX4_worthOf 6 (some FieldType.int) ∈ gtb := gt3 206 (by decide +kernel) rfl
theorem k_687 : Cond.methodLink RL 124 yX4_richest ∈ gtb := gt3 207 (by decide +kernel) rfl
theorem k_688 : Cond.instanceMethod yX4_richest ∈ gtb := gt3 208 (by decide +kernel) rfl
theorem k_689 : Cond.selects RX4 yX4_richest yX4_richest ∈ gtb := gt3 209 (by decide +kernel) rfl
theorem k_690 : Cond.code yX4_richest cX4_richest 3 (some FieldType.int) ∈ gtb := gt3 210 (by decide +kernel) rfl
theorem k_691 : Cond.methodLink RX4 130 yX4_wealth ∈ gtb := gt3 211 (by decide +kernel) rfl
theorem k_693 : Cond.instanceMethod yX4_wealth ∈ gtb := gt3 213 (by decide +kernel) rfl
theorem k_694 : Cond.code yX4_wealth cX4_wealth 2 (some FieldType.int) ∈ gtb := gt3 214 (by decide +kernel) rfl
theorem k_695 : Cond.methodLink RL 129 yX4_mean ∈ gtb := gt3 215 (by decide +kernel) rfl
theorem k_696 : Cond.instanceMethod yX4_mean ∈ gtb := gt3 216 (by decide +kernel) rfl
theorem k_697 : Cond.selects RX4 yX4_mean yX4_mean ∈ gtb := gt3 217 (by decide +kernel) rfl
theorem k_698 : Cond.code yX4_mean cX4_mean 1 (some FieldType.double) ∈ gtb := gt3 218 (by decide +kernel) rfl
theorem k_699 : Cond.methodLink RL 134 yX4_digest ∈ gtb := gt3 219 (by decide +kernel) rfl
theorem k_700 : Cond.instanceMethod yX4_digest ∈ gtb := gt3 220 (by decide +kernel) rfl
theorem k_701 : Cond.selects RX4 yX4_digest yX4_digest ∈ gtb := gt3 221 (by decide +kernel) rfl
theorem k_702 : Cond.code yX4_digest cX4_digest 5 (some FieldType.long) ∈ gtb := gt3 222 (by decide +kernel) rfl
theorem k_703 : Cond.constantLong RX4 133 1259 ∈ gtb := gt3 223 (by decide +kernel) rfl
theorem k_704 : Cond.constantLong RX4 135 31 ∈ gtb := gt3 224 (by decide +kernel) rfl
theorem k_705 : Cond.arrayClass FieldType.long ∈ gtb := gt3 225 (by decide +kernel) rfl
theorem ks_0 : Cond.selects RX2 yX2_total yX2_total ∈ gtb := gt0 0 (by decide +kernel) rfl
theorem ks_1 : Cond.selects RX2 yX2_warehouseBags yX2_warehouseBags ∈ gtb := gt0 1 (by decide +kernel) rfl
theorem ks_2 : Cond.selects RX2 yX2_sumOfShares yX2_sumOfShares ∈ gtb := gt0 2 (by decide +kernel) rfl
theorem ks_3 : Cond.selects RX1 yX1_shareOfTotal yX1_shareOfTotal ∈ gtb := gt0 3 (by decide +kernel) rfl
theorem ks_4 : Cond.selects RX1 yX1_addToDigest yX1_addToDigest ∈ gtb := gt0 4 (by decide +kernel) rfl
theorem ks_5 : Cond.selects RX1 yX1_number yX1_number ∈ gtb := gt0 5 (by decide +kernel) rfl
theorem ks_6 : Cond.selects RX2 yX2_foggerNumber yX2_foggerNumber ∈ gtb := gt0 6 (by decide +kernel) rfl
theorem ks_7 : Cond.selects RX2 yX2_workersFor yX2_workersFor ∈ gtb := gt0 7 (by decide +kernel) rfl
theorem ks_9 : Cond.selects RX1 yX1_begin yX1_begin ∈ gtb := gt0 9 (by decide +kernel) rfl
theorem ks_10 : Cond.selects RX3 yX3_needNailer yX3_needNailer ∈ gtb := gt0 10 (by decide +kernel) rfl
theorem ks_11 : Cond.selects RX2 yX2_goBy yX2_goBy ∈ gtb := gt0 11 (by decide +kernel) rfl
theorem ks_12 : Cond.selects RX2 yX2_goByOne yX2_goByOne ∈ gtb := gt0 12 (by decide +kernel) rfl
theorem ks_13 : Cond.selects RX1 yX1_workHour yX1_workHour ∈ gtb := gt0 13 (by decide +kernel) rfl
theorem ks_14 : Cond.selects RX1 yX1_tendFire yX1_tendFire ∈ gtb := gt0 14 (by decide +kernel) rfl
theorem ks_15 : Cond.selects RX1 yX1_head yX1_head ∈ gtb := gt0 15 (by decide +kernel) rfl
theorem ks_16 : Cond.selects RX1 yX1_headFromHand yX1_headFromHand ∈ gtb := gt0 16 (by decide +kernel) rfl
theorem ks_17 : Cond.selects RX1 yX1_store yX1_store ∈ gtb := gt0 17 (by decide +kernel) rfl
theorem ks_18 : Cond.selects RX2 yX2_reckonWeek yX2_reckonWeek ∈ gtb := gt0 18 (by decide +kernel) rfl
theorem ks_19 : Cond.selects RX0 yX0_buyBags yX0_buyBags ∈ gtb := gt0 19 (by decide +kernel) rfl
theorem ks_20 : Cond.selects RX0 yX0_collectDebt yX0_collectDebt ∈ gtb := gt0 20 (by decide +kernel) rfl
theorem ks_21 : Cond.selects RX0 yX0_deliver yX0_deliver ∈ gtb := gt0 21 (by decide +kernel) rfl
theorem ks_22 : Cond.selects RX1 yX1_copyFrom yX1_copyFrom ∈ gtb := gt0 22 (by decide +kernel) rfl
theorem ks_23 : Cond.selects RX1 yX1_workHours yX1_workHours ∈ gtb := gt0 23 (by decide +kernel) rfl
theorem ks_24 : Cond.selects RX2 yX2_copyFrom yX2_copyFrom ∈ gtb := gt0 24 (by decide +kernel) rfl
theorem ks_25 : Cond.selects RX0 yX0_copyFrom yX0_copyFrom ∈ gtb := gt0 25 (by decide +kernel) rfl
theorem ks_26 : Cond.selects RX4 yX4_no yX4_no ∈ gtb := gt0 26 (by decide +kernel) rfl
theorem ks_27 : Cond.selects RX4 yX4_isThere yX4_isThere ∈ gtb := gt0 27 (by decide +kernel) rfl
theorem ks_28 : Cond.selects RX4 yX4_put yX4_put ∈ gtb := gt0 28 (by decide +kernel) rfl
theorem ks_29 : Cond.selects RX4 yX4_foggerTold yX4_foggerTold ∈ gtb := gt0 29 (by decide +kernel) rfl
theorem ks_30 : Cond.selects RX4 yX4_nailersOf yX4_nailersOf ∈ gtb := gt0 30 (by decide +kernel) rfl
theorem ks_31 : Cond.selects RX4 yX4_counted yX4_counted ∈ gtb := gt0 31 (by decide +kernel) rfl
theorem ks_32 : Cond.selects RX4 yX4_hot yX4_hot ∈ gtb := gt0 32 (by decide +kernel) rfl
theorem ks_33 : Cond.selects RX4 yX4_summed yX4_summed ∈ gtb := gt0 33 (by decide +kernel) rfl
theorem ks_34 : Cond.selects RX4 yX4_sum yX4_sum ∈ gtb := gt0 34 (by decide +kernel) rfl
theorem ks_35 : Cond.selects RX4 yX4_sumOfFour yX4_sumOfFour ∈ gtb := gt0 35 (by decide +kernel) rfl
theorem ks_36 : Cond.selects RX4 yX4_pass yX4_pass ∈ gtb := gt0 36 (by decide +kernel) rfl
theorem ks_37 : Cond.selects RX4 yX4_work yX4_work ∈ gtb := gt0 37 (by decide +kernel) rfl
theorem ks_38 : Cond.selects RX4 yX4_hasIron yX4_hasIron ∈ gtb := gt0 38 (by decide +kernel) rfl
theorem ks_39 : Cond.selects RX4 yX4_reckon yX4_reckon ∈ gtb := gt0 39 (by decide +kernel) rfl
theorem ks_40 : Cond.selects RX4 yX4_lookAhead yX4_lookAhead ∈ gtb := gt0 40 (by decide +kernel) rfl
theorem ks_41 : Cond.selects RX4 yX4_passAhead yX4_passAhead ∈ gtb := gt0 41 (by decide +kernel) rfl
theorem ks_42 : Cond.selects RX4 yX4_worthOf yX4_worthOf ∈ gtb := gt0 42 (by decide +kernel) rfl
theorem ks_43 : Cond.selects RX4 yX4_wealth yX4_wealth ∈ gtb := gt0 43 (by decide +kernel) rfl
theorem inX0g : ∀ w ∈ wsX00, w ∈ gtb := by
  intro w h
  obtain ⟨k, hk, rfl⟩ := List.mem_map.mp h
  have hk := List.mem_range.mp hk
  rcases (show k = 0 ∨ k = 1 ∨ k = 2 ∨ k = 3 ∨ k = 4 ∨ k = 5 by omega) with rfl | rfl | rfl | rfl | rfl | rfl
  · exact k_111
  · exact k_113
  · exact k_115
  · exact k_117
  · exact k_119
  · exact k_121
theorem inX1g : ∀ w ∈ wsX10, w ∈ gtb := by
  intro w h
  obtain ⟨k, hk, rfl⟩ := List.mem_map.mp h
  have hk := List.mem_range.mp hk
  rcases (show k = 0 ∨ k = 1 ∨ k = 2 ∨ k = 3 ∨ k = 4 ∨ k = 5 ∨ k = 6 ∨ k = 7 ∨ k = 8 ∨ k = 9 ∨ k = 10 ∨ k = 11 ∨ k = 12 ∨ k = 13 by omega) with rfl | rfl | rfl | rfl | rfl | rfl | rfl | rfl | rfl | rfl | rfl | rfl | rfl | rfl
  · exact k_62
  · exact k_64
  · exact k_66
  · exact k_68
  · exact k_70
  · exact k_72
  · exact k_74
  · exact k_76
  · exact k_78
  · exact k_80
  · exact k_82
  · exact k_84
  · exact k_86
  · exact k_88
theorem inX2g : ∀ w ∈ wsX20, w ∈ gtb := by
  intro w h
  obtain ⟨k, hk, rfl⟩ := List.mem_map.mp h
  have hk := List.mem_range.mp hk
  rcases (show k = 0 ∨ k = 1 ∨ k = 2 ∨ k = 3 by omega) with rfl | rfl | rfl | rfl
  · exact k_131
  · exact k_133
  · exact k_135
  · exact k_137
theorem inX3g : ∀ w ∈ wsX30, w ∈ gtb := by
  intro w h
  obtain ⟨k, hk, rfl⟩ := List.mem_map.mp h
  have hk := List.mem_range.mp hk
  rcases (show k = 0 ∨ k = 1 ∨ k = 2 by omega) with rfl | rfl | rfl
  · exact k_145
  · exact k_147
  · exact k_149
theorem inX4g : ∀ w ∈ wsX40, w ∈ gtb := by
  intro w h
  obtain ⟨k, hk, rfl⟩ := List.mem_map.mp h
  have hk := List.mem_range.mp hk
  rcases (show k = 0 ∨ k = 1 ∨ k = 2 ∨ k = 3 ∨ k = 4 ∨ k = 5 ∨ k = 6 ∨ k = 7 by omega) with rfl | rfl | rfl | rfl | rfl | rfl | rfl | rfl
  · exact k_521
  · exact k_523
  · exact k_525
  · exact k_527
  · exact k_529
  · exact k_531
  · exact k_533
  · exact k_535
end
section
/-! THE LAYOUT. All cells of a run lie side by side from o on, in the order in which they are made: NailRods (0), its Trade (1) with its rows and 12 nailers of 3 cells and 4 foggers (2 .. 43), the foreseen Trade (44 .. 86), the trial nailer (87 .. 89), the model (90) and its rows (91 .. 95), the law's row (96). -/
/-- o, and what arrays are: int rows, Nailer rows, Fogger rows, long rows; where the four static tables lie -/
abbrev L5 : Type := Nat × ClassId × ClassId × ClassId × ClassId × (Nat → Nat)
def tyP (P : L5) : List (ClassId × FieldType) := [(P.2.1, .int), (P.2.2.1, .object RX1), (P.2.2.2.1, .object RX0), (P.2.2.2.2.1, .long)]
def nA (j : Nat) : Nat := if j < 12 then 3 + 3 * j else if j < 24 then 10 + 3 * j else 87
def fA (j : Nat) : Nat := if j < 4 then 40 + j else 79 + j
def rX (P : L5) : Nat := P.1 + 0
def rT (P : L5) (t : Nat) : Nat := P.1 + (1 + 43 * t)
def rNA (P : L5) (t : Nat) : Nat := P.1 + (2 + 43 * t)
def rFA (P : L5) (t : Nat) : Nat := P.1 + (39 + 43 * t)
def rN (P : L5) (j : Nat) : Nat := P.1 + nA j
def rL (P : L5) (j : Nat) : Nat := P.1 + (nA j + 1)
def rB (P : L5) (j : Nat) : Nat := P.1 + (nA j + 2)
def rF (P : L5) (j : Nat) : Nat := P.1 + fA j
def rM (P : L5) : Nat := P.1 + 90
def rA (P : L5) (b : Nat) : Nat := P.1 + (91 + b)
def rO (P : L5) : Nat := P.1 + 96
def rS (P : L5) (b : Nat) : Nat := P.2.2.2.2.2 b
/-- the kind of a place, and which of its kind -/
def kd (a : Nat) : Nat × Nat :=
  if a = 0 then (0, 0) else if a = 1 then (1, 0) else if a = 2 then (2, 0) else if a < 39 then (3 + a % 3, (a - 3) / 3) else if a = 39 then (6, 0) else if a < 44 then (7, a - 40)
  else if a = 44 then (1, 1) else if a = 45 then (2, 1) else if a < 82 then (3 + (a - 46) % 3, 12 + (a - 46) / 3) else if a = 82 then (6, 1) else if a < 87 then (7, a - 79)
  else if a = 87 then (3, 24) else if a = 88 then (4, 24) else if a = 89 then (5, 24) else if a = 90 then (8, 0) else if a < 96 then (9, a - 91) else (10, 0)
def ik (q : Nat × Nat) : Nat := match q.1 with
  | 0 => 0 | 1 => 1 + 43 * q.2 | 2 => 2 + 43 * q.2 | 3 => nA q.2 | 4 => nA q.2 + 1 | 5 => nA q.2 + 2 | 6 => 39 + 43 * q.2 | 7 => fA q.2 | 8 => 90 | 9 => 91 + q.2 | _ => 96
theorem ik_kd : ∀ a, a < 97 → ik (kd a) = a := by decide +kernel
def lenA (b : Nat) : Nat := match b with
  | 0 => 240 | 1 => 20 | 2 => 240 | 3 => 20 | _ => 4
/-- what a cell holds: nailers' rows N (20 numbers each: 12 fields, 4 loose, 4 bags), foggers' rows F, trades' T, the model's numbers K and rows A, the law's w -/
def cK (P : L5) (N F T : Nat → Nat → Int32) (K : Nat → Int32) (A : Nat → Nat → Int32) (w : Int64) (q : Nat × Nat) : va_E := match q.1 with
  | 0 => .inr (3, [.ref (rT P 0), .ref (rT P 1), .ref (rN P 24)])
  | 1 => .inr (2, [.int (T q.2 0), .int (T q.2 1), .ref (rNA P q.2), .ref (rFA P q.2)])
  | 2 => .inl (P.2.2.1, 12, .inr (.inr (.inr (.inr (fun i => some (rN P (12 * q.2 + i)))))))
  | 3 => .inr (1, [.int (N q.2 0), .int (N q.2 1), .int (N q.2 2), .int (N q.2 3), .int (N q.2 4), .int (N q.2 5), .int (N q.2 6), .int (N q.2 7), .int (N q.2 8), .int (N q.2 9), .int (N q.2 10), .int (N q.2 11), .ref (rL P q.2), .ref (rB P q.2)])
  | 4 => .inl (P.2.1, 4, .inl (fun i => if i < 4 then N q.2 (12 + i) else 0))
  | 5 => .inl (P.2.1, 4, .inl (fun i => if i < 4 then N q.2 (16 + i) else 0))
  | 6 => .inl (P.2.2.2.1, 4, .inr (.inr (.inr (.inr (fun i => some (rF P (4 * q.2 + i)))))))
  | 7 => .inr (0, [.int (F q.2 0), .int (F q.2 1), .int (F q.2 2), .int (F q.2 3), .int (F q.2 4), .int (F q.2 5)])
  | 8 => .inr (4, [.int (K 0), .int (K 1), .int (K 2), .ref (rA P 0), .ref (rA P 1), .ref (rA P 2), .ref (rA P 3), .ref (rA P 4)])
  | 9 => .inl (P.2.1, lenA q.2, .inl (A q.2))
  | _ => .inl (P.2.2.2.2.1, 1, .inr (.inl (fun _ => w)))
def cw (P : L5) (N F T : Nat → Nat → Int32) (K : Nat → Int32) (A : Nat → Nat → Int32) (w : Int64) : Nat → va_E := fun a => cK P N F T K A w (kd a)
/-- n cells from o on -/
def wl (o n : Nat) (f : Nat → va_E) : va_W := (List.range n).map (fun a => (o + a, f a))
theorem wl_len {o n : Nat} {f : Nat → va_E} : (wl o n f).length = n := by simp [wl]
theorem wl_get {o n : Nat} {f : Nat → va_E} {a : Nat} (h : a < n) : (wl o n f)[a]? = some (o + a, f a) := by simp [wl, h]
theorem wl_of {o n : Nat} {f : Nat → va_E} {k : Nat} {q : Nat × va_E} (h : (wl o n f)[k]? = some q) : k < n ∧ q = (o + k, f k) := by
  have hk : k < n := by
    have := (List.getElem?_eq_some_iff.mp h).1
    rwa [wl_len] at this
  rw [wl_get hk] at h
  exact ⟨hk, (Option.some.inj h).symm⟩
theorem wl_cong {o n : Nat} {f g : Nat → va_E} (h : ∀ a, a < n → f a = g a) : wl o n f = wl o n g := by
  unfold wl
  apply List.map_congr_left
  intro a ha
  rw [h a (List.mem_range.mp ha)]
theorem wl_set {o n : Nat} {f : Nat → va_E} {a : Nat} {e : va_E} (h : a < n) : (wl o n f).set a (o + a, e) = wl o n (va_up f a e) := by
  apply List.ext_getElem?
  intro j
  by_cases hj : j = a
  · subst hj
    rw [List.getElem?_set_self (by rw [wl_len]; exact h), wl_get h, va_up_self]
  · rw [List.getElem?_set_ne (Ne.symm hj)]
    by_cases hl : j < n
    · rw [wl_get hl, wl_get hl, va_up_ne _ _ hj]
    · rw [List.getElem?_eq_none (by rw [wl_len]; omega), List.getElem?_eq_none (by rw [wl_len]; omega)]
theorem wl_push {o n : Nat} {f : Nat → va_E} {e : va_E} : wl o n f ++ [(o + n, e)] = wl o (n + 1) (va_up f n e) := by
  unfold wl
  rw [List.range_succ, List.map_append, List.map_cons, List.map_nil, va_up_self]
  congr 1
  apply List.map_congr_left
  intro a ha
  rw [va_up_ne _ _ (Nat.ne_of_lt (List.mem_range.mp ha))]
theorem wl_D (o n : Nat) (f : Nat → va_E) : va_D (fun q => o ≤ q) (wl o n f) := by
  refine ⟨fun i j p q hi hj h => ?_, fun k q hk => ?_⟩
  · obtain ⟨-, rfl⟩ := wl_of hi
    obtain ⟨-, rfl⟩ := wl_of hj
    exact Nat.add_left_cancel h
  · obtain ⟨-, rfl⟩ := wl_of hk
    exact Nat.le_add_right _ _
theorem wl_sub {D : va_G} {cl : List vw_C} {o n n' : Nat} {f : Nat → va_E} {H : Heap} (hn : n' ≤ n) (h : va_P D cl (wl o n f) H) : va_P D cl (wl o n' f) H := by
  intro k q hk
  obtain ⟨h1, rfl⟩ := wl_of hk
  exact h k _ (wl_get (Nat.lt_of_lt_of_le h1 hn))
theorem cw_get {P : L5} {N F T : Nat → Nat → Int32} {K : Nat → Int32} {A : Nat → Nat → Int32} {w : Int64} (q : Nat × Nat) (h : kd (ik q) = q) (h2 : ik q < 97) : (wl P.1 97 (cw P N F T K A w))[ik q]? = some (P.1 + ik q, cK P N F T K A w q) := by
  rw [wl_get h2]
  unfold cw
  rw [h]
theorem cw_set {P : L5} {N F T : Nat → Nat → Int32} {K : Nat → Int32} {A : Nat → Nat → Int32} {w : Int64} {N' F' T' : Nat → Nat → Int32} {K' : Nat → Int32} {A' : Nat → Nat → Int32} {w' : Int64} (q : Nat × Nat) (h : kd (ik q) = q) (h2 : ik q < 97) {e : va_E} (he : cK P N' F' T' K' A' w' q = e) (ho : ∀ q', q' ≠ q → (∃ a, a < 97 ∧ kd a = q') → cK P N' F' T' K' A' w' q' = cK P N F T K A w q') :
    (wl P.1 97 (cw P N F T K A w)).set (ik q) (P.1 + ik q, e) = wl P.1 97 (cw P N' F' T' K' A' w') := by
  rw [wl_set h2]
  apply wl_cong
  intro a ha
  by_cases hq : a = ik q
  · subst hq
    rw [va_up_self]
    unfold cw
    rw [h, he]
  · rw [va_up_ne _ _ hq]
    unfold cw
    rw [ho (kd a) (fun z => hq (by rw [← z, ik_kd a ha])) ⟨a, ha, rfl⟩]
theorem kdN : ∀ j, j < 25 → kd (ik (3, j)) = (3, j) ∧ ik (3, j) < 97 := by decide +kernel
theorem kdL : ∀ j, j < 25 → kd (ik (4, j)) = (4, j) ∧ ik (4, j) < 97 := by decide +kernel
theorem kdB : ∀ j, j < 25 → kd (ik (5, j)) = (5, j) ∧ ik (5, j) < 97 := by decide +kernel
theorem kdF : ∀ j, j < 8 → kd (ik (7, j)) = (7, j) ∧ ik (7, j) < 97 := by decide +kernel
theorem kdT : ∀ j, j < 2 → kd (ik (1, j)) = (1, j) ∧ ik (1, j) < 97 := by decide +kernel
theorem kdNA : ∀ j, j < 2 → kd (ik (2, j)) = (2, j) ∧ ik (2, j) < 97 := by decide +kernel
theorem kdFA : ∀ j, j < 2 → kd (ik (6, j)) = (6, j) ∧ ik (6, j) < 97 := by decide +kernel
theorem kdA : ∀ j, j < 5 → kd (ik (9, j)) = (9, j) ∧ ik (9, j) < 97 := by decide +kernel
theorem kdX : kd (ik (0, 0)) = (0, 0) ∧ ik (0, 0) < 97 := by decide +kernel
theorem kdM : kd (ik (8, 0)) = (8, 0) ∧ ik (8, 0) < 97 := by decide +kernel
theorem kd8 : ∀ a, a < 97 → (kd a).1 = 8 → kd a = (8, 0) := by decide +kernel
theorem kdO : kd (ik (10, 0)) = (10, 0) ∧ ik (10, 0) < 97 := by decide +kernel
theorem va_up_eta {α : Type} (f : Nat → α) (k : Nat) : va_up f k (f k) = f := by
  funext j
  by_cases h : j = k
  · subst h; rw [va_up_self]
  · rw [va_up_ne _ _ h]
theorem va_up_up {α : Type} (f : Nat → α) (k : Nat) (a b : α) : va_up (va_up f k a) k b = va_up f k b := by
  funext j
  by_cases h : j = k
  · subst h; rw [va_up_self, va_up_self]
  · rw [va_up_ne _ _ h, va_up_ne _ _ h, va_up_ne _ _ h]
end
section
/-! WHAT STAYS ALL THE TIME (tables, strings, links between nest mates), THE STATE OF A WALK, AND ITS ROWS, one an instruction -/
def ozT (j : Nat) : Int32 := if j = 0 then 1 else if j = 1 then 2 else if j = 2 then 3 else 6
def woT (j : Nat) : Int32 := if j = 0 then 8 else if j = 1 then 14 else if j = 2 then 20 else 36
def stQ : List (String × String × (Nat → Int32)) := [("NailRods", "OUNCES", ozT), ("NailRods", "WORTH", woT), ("NailRodsModel", "OUNCES", ozT), ("NailRodsModel", "WORTH", woT)]
def strQ : List (Nat × String) := [(139, "there is no such number"), (143, "the value is out of its range"), (40, "there are 12 nailers"), (59, "more than 90 would be owed"), (70, "too few coins, or too much coal"), (75, "something is owed"), (119, "what is not 3 to 8")]
def xn (n : Nat) : String := if n = 1 then "java/lang/IndexOutOfBoundsException" else if n = 2 then "java/lang/IllegalArgumentException" else "java/lang/IllegalStateException"
def nwF : List (String × Nat × String × String × String) := [(RX3, 72, "NailRods$Nailer", "kind", "I"), (RX2, 49, "NailRods$Nailer", "fogger", "I"), (RX3, 77, "NailRods$Nailer", "fogger", "I"), (RX3, 61, "NailRods$Nailer", "rods", "I"), (RX3, 128, "NailRods$Nailer", "heat", "I"), (RX3, 67, "NailRods$Nailer", "coal", "I"), (RX0, 39, "NailRods$Nailer", "coins", "I"), (RX3, 64, "NailRods$Nailer", "coins", "I"), (RX3, 56, "NailRods$Nailer", "owed", "I"), (RX0, 40, "NailRods$Nailer", "owed", "I"), (RX3, 84, "NailRods$Nailer", "loose", "[I"), (RX0, 34, "NailRods$Nailer", "bags", "[I"), (RX3, 88, "NailRods$Nailer", "bags", "[I"), (RX3, 95, "NailRods$Fogger", "keptBack", "I"), (RX2, 74, "NailRods$Fogger", "keptBack", "I"), (RX2, 77, "NailRods$Fogger", "coins", "I"), (RX2, 68, "NailRods$Fogger", "bought", "I"), (RX2, 83, "NailRods$Fogger", "paid", "I"), (RX2, 86, "NailRods$Fogger", "earned", "I"), (RX3, 34, "NailRods$Trade", "nailerCount", "I"), (RX3, 45, "NailRods$Trade", "nailers", "[LNailRods$Nailer;"), (RX3, 91, "NailRods$Trade", "foggers", "[LNailRods$Fogger;"), (RX1, 82, "NailRods", "OUNCES", "[I"), (RX0, 30, "NailRods", "WORTH", "[I")]
def nwM : List (String × Nat × MethodName) := [(RX3, 9, yX2_init), (RX2, 17, yX1_init), (RX2, 24, yX0_init), (RX3, 21, yX1_init), (RX3, 104, yX2_total), (RX2, 71, yX1_shareOfTotal), (RX3, 135, yX1_addToDigest), (RX3, 100, yX2_foggerNumber), (RX3, 49, yX1_begin), (RX3, 80, yX1_number), (RX3, 107, yX2_goBy), (RX2, 43, yX1_workHour), (RX2, 52, yX0_buyBags), (RX2, 55, yX0_collectDebt), (RX2, 58, yX0_deliver), (RX3, 110, yX1_copyFrom), (RX3, 114, yX1_workHours), (RX3, 122, yX2_copyFrom), (RX2, 32, yX1_copyFrom), (RX2, 36, yX0_copyFrom)]
def ST (P : L5) (U : State) : Prop :=
  (∀ (b : Nat) (q : String × String × (Nat → Int32)), stQ[b]? = some q → va_Z q.1 q.2.1 "[I" (.ref (rS P b)) (fun a => P.1 ≤ a) U U.heap ∧ va_T .int (rS P b) 4 (fun j => .int (q.2.2 j)) (fun a => P.1 ≤ a) U U.heap) ∧
  (vx_Zq Bundle.tN "UNASSIGNED_STACK" Bundle.steD (fun a => P.1 ≤ a) U U.heap ∧ vx_Zq Bundle.tN "SUPPRESSED_SENTINEL" Bundle.listD (fun a => P.1 ≤ a) U U.heap) ∧
  (∀ q ∈ strQ, ∃ a, vk_R RX3 q.1 q.2 a U) ∧
  (∀ q ∈ nwF, va_Nw (.fieldLinkNest q.1 q.2.1 q.2.2.1 q.2.2.2.1 q.2.2.2.2 RX3) U) ∧
  (∀ q ∈ nwM, va_Nw (.methodLinkNest q.1 q.2.1 q.2.2 RX3) U) ∧
  (va_AO RX1 U ∧ va_AO RX0 U) ∧
  (∀ n, va_Nw (.castable (xn n) (xn n)) U) ∧ (∀ a b, xn a ≠ xn b → va_Nc (xn a) (xn b) U)
theorem ST.move {P : L5} {s U : State} (h : ST P s) (hW : s.WarmedH U.vm) (hH : ∀ q : Nat, q < s.heap.size → ¬ (fun a => P.1 ≤ a) q → U.heap[q]? = s.heap[q]?) : ST P U := by
  obtain ⟨h1, h2, h3, h4, h5, h6, h7, h8⟩ := h
  refine ⟨fun b q hq => ?_, ?_, fun q hq => ?_, fun q hq => ?_, fun q hq => ?_, ?_, fun n => ?_, fun a b hab => ?_⟩
  · obtain ⟨a1, a2⟩ := h1 b q hq
    exact ⟨va_Z.moved hW.alike (va_Z.kept a1 hH), va_T.moved hW.alike (va_T.kept a2 hH)⟩
  · exact ⟨vx_Zq.moved hW.alike (vx_Zq.kept h2.1 hH), vx_Zq.moved hW.alike (vx_Zq.kept h2.2 hH)⟩
  · obtain ⟨a, ha⟩ := h3 q hq
    exact ⟨a, vk_R.warm hW ha⟩
  · exact va_Nw.warmF hW (h4 q hq)
  · exact va_Nw.warmM hW (h5 q hq)
  · exact ⟨va_AO.moved hW.alike h6.1, va_AO.moved hW.alike h6.2⟩
  · exact va_Nw.warmC hW (h7 n)
  · exact va_Nc.moved hW.alike (h8 a b hab)
/-- at a method's start: n cells that hold f; x: nothing else was made behind o -/
def PreI (P : L5) (D : va_G) (n : Nat) (x : Prop) (f : Nat → va_E) (U : State) : Prop := va_P D vwCl (wl P.1 n f) U.heap ∧ va_K D vwCl (tyP P) U ∧ P.1 ≤ U.heap.size ∧ (x → U.heap.size = P.1 + n) ∧ ST P U
theorem PreI.blind {P : L5} {D : va_G} {n : Nat} {x : Prop} {f : Nat → va_E} {av : List Value} : FrameBlind (va_Pc av (PreI P D n x f)) := by
  intro a U g mk h
  obtain ⟨h0, h1, h2, h3, h4, h5⟩ := h
  exact ⟨h0, h1, va_K.moved (u := U) (U := U.calling g mk a) (Vm.Alike.refl U.vm) h2, h3, h4, ST.move (s := U) (U := U.calling g mk a) h5 (State.WarmedH.refl U) (fun _ _ _ => rfl)⟩
def rmO (h mc ms : Nat) : Room := { frames := h, cells := mc, slots := ms, locals := 28 * h }
/-- what a method's walk stands on -/
def Cx (p : Program) (l : Launch) (s : State) (m : MethodId) (args : Array Value) (meth : Method) (c : Code) (P : L5) (D : va_G) (cc : ByteArray) (nL : Nat) (ret : Option FieldType) (own : String) : Prop :=
  p.tables.exec = Jvm.exec ∧ c.code = cc ∧ c.maxLocals = nL ∧ s.vm.findClass own = some m.cls ∧ (∀ w ∈ gtb, w.before args s = true) ∧ meth.sig.returnType = ret ∧ meth.locks = false ∧ va_K D vwCl (tyP P) s ∧ P.1 ≤ s.heap.size ∧ ST P s
/-- the walk's judgement: from every heap that holds f -/
def V (p : Program) (l : Launch) (e : Env) (R : Room) (s : State) (m : MethodId) (args : Array Value) (below : List Frame) (meth : Method) (c : Code) (P : L5) (D : va_G) (Q : State → Prop) (nL n : Nat) (x : Prop) (f : Nat → va_E) (k z pc : Nat) (lv : List (Nat × Value)) (st : List Value) : Prop :=
  ∀ (H : Heap) (locs : List Loc) (ls : Array Slot), va_P D vwCl (wl P.1 n f) H → (x → H.size = P.1 + n) → va_S (fun q => P.1 ≤ q) s.heap H locs → lv_has ls nL lv → W p l e R s m args below meth c H locs k z Q (F0 m pc ls st)
section VRows
variable {p : Program} {l : Launch} {e : Env} {R : Room} {s : State} {m : MethodId} {args : Array Value} {below : List Frame} {meth : Method} {c : Code} {P : L5} {D : va_G} {Q : State → Prop} {nL n : Nat} {x : Prop} {f : Nat → va_E} {k z pc : Nat} {lv : List (Nat × Value)} {st : List Value} {cc : ByteArray} {ret : Option FieldType} {own : String}
theorem v_iconst (C : Cx p l s m args meth c P D cc nL ret own) {i : Int} {v : Int32} (hdg : decode cc pc = .ok (.iconst i, 1)) (hv : Int32.ofInt i = v) (kk : V p l e R s m args below meth c P D Q nL n x f k z (pc + 1) lv (.int v :: st)) : V p l e R s m args below meth c P D Q nL n x f k z pc lv st := fun H locs ls hP hz hS hl => lv_iconst C.1 C.2.1 hdg hv (kk H locs ls hP hz hS hl)
theorem v_bipush (C : Cx p l s m args meth c P D cc nL ret own) {i : Int} {v : Int32} (hdg : decode cc pc = .ok (.bipush i, 2)) (hv : (Int8.ofInt i).toInt32 = v) (kk : V p l e R s m args below meth c P D Q nL n x f k z (pc + 2) lv (.int v :: st)) : V p l e R s m args below meth c P D Q nL n x f k z pc lv st := fun H locs ls hP hz hS hl => lv_bipush C.1 C.2.1 hdg hv (kk H locs ls hP hz hS hl)
theorem v_sipush (C : Cx p l s m args meth c P D cc nL ret own) {i : Int} {v : Int32} (hdg : decode cc pc = .ok (.sipush i, 3)) (hv : (Int16.ofInt i).toInt32 = v) (kk : V p l e R s m args below meth c P D Q nL n x f k z (pc + 3) lv (.int v :: st)) : V p l e R s m args below meth c P D Q nL n x f k z pc lv st := fun H locs ls hP hz hS hl => lv_sipush C.1 C.2.1 hdg hv (kk H locs ls hP hz hS hl)
theorem v_iload_n (C : Cx p l s m args meth c P D cc nL ret own) {i : Fin 4} {a : Int32} (q : Nat) (hdg : decode cc pc = .ok (.iload_n i, 1)) (hq : lv[q]? = some ((i : Nat), .int a)) (kk : V p l e R s m args below meth c P D Q nL n x f k z (pc + 1) lv (.int a :: st)) : V p l e R s m args below meth c P D Q nL n x f k z pc lv st := fun H locs ls hP hz hS hl => lv_iload_n C.1 C.2.1 hdg rfl (lv_at hl q hq) (kk H locs ls hP hz hS hl)
theorem v_iload (C : Cx p l s m args meth c P D cc nL ret own) {i : Nat} {a : Int32} (q : Nat) (hdg : decode cc pc = .ok (.iload i, 2)) (hq : lv[q]? = some (i, .int a)) (kk : V p l e R s m args below meth c P D Q nL n x f k z (pc + 2) lv (.int a :: st)) : V p l e R s m args below meth c P D Q nL n x f k z pc lv st := fun H locs ls hP hz hS hl => lv_iload C.1 C.2.1 hdg (lv_at hl q hq) (kk H locs ls hP hz hS hl)
theorem v_aload_n (C : Cx p l s m args meth c P D cc nL ret own) {i : Fin 4} {a : Nat} (q : Nat) (hdg : decode cc pc = .ok (.aload_n i, 1)) (hq : lv[q]? = some ((i : Nat), .ref a)) (kk : V p l e R s m args below meth c P D Q nL n x f k z (pc + 1) lv (.ref a :: st)) : V p l e R s m args below meth c P D Q nL n x f k z pc lv st := fun H locs ls hP hz hS hl => lv_aload_n C.1 C.2.1 hdg rfl (lv_at hl q hq) (kk H locs ls hP hz hS hl)
theorem v_aload (C : Cx p l s m args meth c P D cc nL ret own) {i : Nat} {a : Nat} (q : Nat) (hdg : decode cc pc = .ok (.aload i, 2)) (hq : lv[q]? = some (i, .ref a)) (kk : V p l e R s m args below meth c P D Q nL n x f k z (pc + 2) lv (.ref a :: st)) : V p l e R s m args below meth c P D Q nL n x f k z pc lv st := fun H locs ls hP hz hS hl => lv_aload C.1 C.2.1 hdg (lv_at hl q hq) (kk H locs ls hP hz hS hl)
theorem v_lload_n (C : Cx p l s m args meth c P D cc nL ret own) {i : Fin 4} {a : Int64} (q : Nat) (hdg : decode cc pc = .ok (.lload_n i, 1)) (hq : lv[q]? = some ((i : Nat), .long a)) (kk : V p l e R s m args below meth c P D Q nL n x f k z (pc + 1) lv (.long a :: st)) : V p l e R s m args below meth c P D Q nL n x f k z pc lv st := fun H locs ls hP hz hS hl => lv_lload_n C.1 C.2.1 hdg rfl (lv_at hl q hq) (kk H locs ls hP hz hS hl)
theorem v_dload (C : Cx p l s m args meth c P D cc nL ret own) {i : Nat} {a : UInt64} (q : Nat) (hdg : decode cc pc = .ok (.dload i, 2)) (hq : lv[q]? = some (i, .double a)) (kk : V p l e R s m args below meth c P D Q nL n x f k z (pc + 2) lv (.double a :: st)) : V p l e R s m args below meth c P D Q nL n x f k z pc lv st := fun H locs ls hP hz hS hl => lv_dload C.1 C.2.1 hdg (lv_at hl q hq) (kk H locs ls hP hz hS hl)
theorem v_istore_n (C : Cx p l s m args meth c P D cc nL ret own) {u : Fin 4} {i : Nat} {a : Int32} {lv' : List (Nat × Value)} (hdg : decode cc pc = .ok (.istore_n u, 1)) (hi : (u : Nat) = i) (hn : i < nL) (hl2 : (i, Value.int a) :: lv.filter (fun q => !(q.1 == i) && !(q.1 + 1 == i && q.2.category == 2)) = lv') (kk : V p l e R s m args below meth c P D Q nL n x f k z (pc + 1) lv' st) : V p l e R s m args below meth c P D Q nL n x f k z pc lv (.int a :: st) := fun H locs ls hP hz hS hl => lv_istore_n C.1 C.2.1 hdg hi hl hn hl2 (fun ls' hl' => kk H locs ls' hP hz hS hl')
theorem v_istore (C : Cx p l s m args meth c P D cc nL ret own) {i : Nat} {a : Int32} {lv' : List (Nat × Value)} (hdg : decode cc pc = .ok (.istore i, 2)) (hn : i < nL) (hl2 : (i, Value.int a) :: lv.filter (fun q => !(q.1 == i) && !(q.1 + 1 == i && q.2.category == 2)) = lv') (kk : V p l e R s m args below meth c P D Q nL n x f k z (pc + 2) lv' st) : V p l e R s m args below meth c P D Q nL n x f k z pc lv (.int a :: st) := fun H locs ls hP hz hS hl => lv_istore C.1 C.2.1 hdg hl hn hl2 (fun ls' hl' => kk H locs ls' hP hz hS hl')
theorem v_astore_n (C : Cx p l s m args meth c P D cc nL ret own) {u : Fin 4} {i : Nat} {a : Nat} {lv' : List (Nat × Value)} (hdg : decode cc pc = .ok (.astore_n u, 1)) (hi : (u : Nat) = i) (hn : i < nL) (hl2 : (i, Value.ref a) :: lv.filter (fun q => !(q.1 == i) && !(q.1 + 1 == i && q.2.category == 2)) = lv') (kk : V p l e R s m args below meth c P D Q nL n x f k z (pc + 1) lv' st) : V p l e R s m args below meth c P D Q nL n x f k z pc lv (.ref a :: st) := fun H locs ls hP hz hS hl => lv_astore_n C.1 C.2.1 hdg hi hl hn hl2 (fun ls' hl' => kk H locs ls' hP hz hS hl')
theorem v_astore (C : Cx p l s m args meth c P D cc nL ret own) {i : Nat} {a : Nat} {lv' : List (Nat × Value)} (hdg : decode cc pc = .ok (.astore i, 2)) (hn : i < nL) (hl2 : (i, Value.ref a) :: lv.filter (fun q => !(q.1 == i) && !(q.1 + 1 == i && q.2.category == 2)) = lv') (kk : V p l e R s m args below meth c P D Q nL n x f k z (pc + 2) lv' st) : V p l e R s m args below meth c P D Q nL n x f k z pc lv (.ref a :: st) := fun H locs ls hP hz hS hl => lv_astore C.1 C.2.1 hdg hl hn hl2 (fun ls' hl' => kk H locs ls' hP hz hS hl')
theorem v_lstore_n (C : Cx p l s m args meth c P D cc nL ret own) {u : Fin 4} {i : Nat} {a : Int64} {lv' : List (Nat × Value)} (hdg : decode cc pc = .ok (.lstore_n u, 1)) (hi : (u : Nat) = i) (hn : i + 1 < nL) (hl2 : (i, Value.long a) :: lv.filter (fun q => !(q.1 == i) && (!(q.1 == i + 1) && !(q.1 + 1 == i && q.2.category == 2))) = lv') (kk : V p l e R s m args below meth c P D Q nL n x f k z (pc + 1) lv' st) : V p l e R s m args below meth c P D Q nL n x f k z pc lv (.long a :: st) := fun H locs ls hP hz hS hl => lv_lstore_n C.1 C.2.1 hdg hi hl hn hl2 (fun ls' hl' => kk H locs ls' hP hz hS hl')
theorem v_dstore (C : Cx p l s m args meth c P D cc nL ret own) {i : Nat} {a : UInt64} {lv' : List (Nat × Value)} (hdg : decode cc pc = .ok (.dstore i, 2)) (hn : i + 1 < nL) (hl2 : (i, Value.double a) :: lv.filter (fun q => !(q.1 == i) && (!(q.1 == i + 1) && !(q.1 + 1 == i && q.2.category == 2))) = lv') (kk : V p l e R s m args below meth c P D Q nL n x f k z (pc + 2) lv' st) : V p l e R s m args below meth c P D Q nL n x f k z pc lv (.double a :: st) := fun H locs ls hP hz hS hl => lv_dstore C.1 C.2.1 hdg hl hn hl2 (fun ls' hl' => kk H locs ls' hP hz hS hl')
theorem v_iinc (C : Cx p l s m args meth c P D cc nL ret own) {i : Nat} {d : Int} {a b : Int32} {lv' : List (Nat × Value)} (q : Nat) (hdg : decode cc pc = .ok (.iinc i d, 3)) (hq : lv[q]? = some (i, .int a)) (hv : a + Int32.ofInt d = b) (hn : i < nL) (hl2 : (i, Value.int b) :: lv.filter (fun q => !(q.1 == i) && !(q.1 + 1 == i && q.2.category == 2)) = lv') (kk : V p l e R s m args below meth c P D Q nL n x f k z (pc + 3) lv' st) : V p l e R s m args below meth c P D Q nL n x f k z pc lv st := fun H locs ls hP hz hS hl => lv_iinc C.1 C.2.1 hdg hl hq hv hn hl2 (fun ls' hl' => kk H locs ls' hP hz hS hl')
theorem v_iadd (C : Cx p l s m args meth c P D cc nL ret own) {a b : Int32} (hdg : decode cc pc = .ok (.iadd, 1))  (kk : V p l e R s m args below meth c P D Q nL n x f k z (pc + 1) lv (.int (a + b) :: st)) : V p l e R s m args below meth c P D Q nL n x f k z pc lv (.int b :: .int a :: st) := fun H locs ls hP hz hS hl => lv_iadd C.1 C.2.1 hdg (kk H locs ls hP hz hS hl)
theorem v_isub (C : Cx p l s m args meth c P D cc nL ret own) {a b : Int32} (hdg : decode cc pc = .ok (.isub, 1))  (kk : V p l e R s m args below meth c P D Q nL n x f k z (pc + 1) lv (.int (a - b) :: st)) : V p l e R s m args below meth c P D Q nL n x f k z pc lv (.int b :: .int a :: st) := fun H locs ls hP hz hS hl => lv_isub C.1 C.2.1 hdg (kk H locs ls hP hz hS hl)
theorem v_imul (C : Cx p l s m args meth c P D cc nL ret own) {a b : Int32} (hdg : decode cc pc = .ok (.imul, 1))  (kk : V p l e R s m args below meth c P D Q nL n x f k z (pc + 1) lv (.int (a * b) :: st)) : V p l e R s m args below meth c P D Q nL n x f k z pc lv (.int b :: .int a :: st) := fun H locs ls hP hz hS hl => lv_imul C.1 C.2.1 hdg (kk H locs ls hP hz hS hl)
theorem v_iand (C : Cx p l s m args meth c P D cc nL ret own) {a b : Int32} (hdg : decode cc pc = .ok (.iand, 1))  (kk : V p l e R s m args below meth c P D Q nL n x f k z (pc + 1) lv (.int (a &&& b) :: st)) : V p l e R s m args below meth c P D Q nL n x f k z pc lv (.int b :: .int a :: st) := fun H locs ls hP hz hS hl => lv_iand C.1 C.2.1 hdg (kk H locs ls hP hz hS hl)
theorem v_idiv (C : Cx p l s m args meth c P D cc nL ret own) {a b : Int32} (hdg : decode cc pc = .ok (.idiv, 1)) (hne : ¬ b = 0) (kk : V p l e R s m args below meth c P D Q nL n x f k z (pc + 1) lv (.int (a / b) :: st)) : V p l e R s m args below meth c P D Q nL n x f k z pc lv (.int b :: .int a :: st) := fun H locs ls hP hz hS hl => lv_idiv C.1 C.2.1 hdg hne (kk H locs ls hP hz hS hl)
theorem v_irem (C : Cx p l s m args meth c P D cc nL ret own) {a b : Int32} (hdg : decode cc pc = .ok (.irem, 1)) (hne : ¬ b = 0) (kk : V p l e R s m args below meth c P D Q nL n x f k z (pc + 1) lv (.int (a - a / b * b) :: st)) : V p l e R s m args below meth c P D Q nL n x f k z pc lv (.int b :: .int a :: st) := fun H locs ls hP hz hS hl => lv_irem C.1 C.2.1 hdg hne (kk H locs ls hP hz hS hl)
theorem v_ladd (C : Cx p l s m args meth c P D cc nL ret own) {a b : Int64} (hdg : decode cc pc = .ok (.ladd, 1))  (kk : V p l e R s m args below meth c P D Q nL n x f k z (pc + 1) lv (.long (a + b) :: st)) : V p l e R s m args below meth c P D Q nL n x f k z pc lv (.long b :: .long a :: st) := fun H locs ls hP hz hS hl => lv_ladd C.1 C.2.1 hdg (kk H locs ls hP hz hS hl)
theorem v_lmul (C : Cx p l s m args meth c P D cc nL ret own) {a b : Int64} (hdg : decode cc pc = .ok (.lmul, 1))  (kk : V p l e R s m args below meth c P D Q nL n x f k z (pc + 1) lv (.long (a * b) :: st)) : V p l e R s m args below meth c P D Q nL n x f k z pc lv (.long b :: .long a :: st) := fun H locs ls hP hz hS hl => lv_lmul C.1 C.2.1 hdg (kk H locs ls hP hz hS hl)
theorem v_i2l (C : Cx p l s m args meth c P D cc nL ret own) {a : Int32} (hdg : decode cc pc = .ok (.i2l, 1))  (kk : V p l e R s m args below meth c P D Q nL n x f k z (pc + 1) lv (.long a.toInt64 :: st)) : V p l e R s m args below meth c P D Q nL n x f k z pc lv (.int a :: st) := fun H locs ls hP hz hS hl => lv_i2l C.1 C.2.1 hdg rfl (kk H locs ls hP hz hS hl)
theorem v_lcmp (C : Cx p l s m args meth c P D cc nL ret own) {a b : Int64} (hdg : decode cc pc = .ok (.lcmp, 1))  (kk : V p l e R s m args below meth c P D Q nL n x f k z (pc + 1) lv (.int (lg_cmp a b) :: st)) : V p l e R s m args below meth c P D Q nL n x f k z pc lv (.long b :: .long a :: st) := fun H locs ls hP hz hS hl => W.lcmp C.1 C.2.1 hdg (kk H locs ls hP hz hS hl)
theorem v_dup (C : Cx p l s m args meth c P D cc nL ret own) {a : Value} (hdg : decode cc pc = .ok (.dup, 1)) (ha : a.category = 1) (kk : V p l e R s m args below meth c P D Q nL n x f k z (pc + 1) lv (a :: a :: st)) : V p l e R s m args below meth c P D Q nL n x f k z pc lv (a :: st) := fun H locs ls hP hz hS hl => lv_dup C.1 C.2.1 hdg ha (kk H locs ls hP hz hS hl)
theorem v_dup2 (C : Cx p l s m args meth c P D cc nL ret own) {a b : Value} (hdg : decode cc pc = .ok (.dup2, 1)) (ha : a.category = 1) (hb : b.category = 1) (kk : V p l e R s m args below meth c P D Q nL n x f k z (pc + 1) lv (a :: b :: a :: b :: st)) : V p l e R s m args below meth c P D Q nL n x f k z pc lv (a :: b :: st) := fun H locs ls hP hz hS hl => lv_dup2_11 C.1 C.2.1 hdg ha hb (kk H locs ls hP hz hS hl)
theorem v_pop (C : Cx p l s m args meth c P D cc nL ret own) {a : Value} (hdg : decode cc pc = .ok (.pop, 1)) (ha : a.category = 1) (kk : V p l e R s m args below meth c P D Q nL n x f k z (pc + 1) lv st) : V p l e R s m args below meth c P D Q nL n x f k z pc lv (a :: st) := fun H locs ls hP hz hS hl => lv_pop C.1 C.2.1 hdg ha (kk H locs ls hP hz hS hl)
theorem v_if_eq (C : Cx p l s m args meth c P D cc nL ret own) {a : Int32} {off : Int} {tgt : Nat} (hdg : decode cc pc = .ok (.ifCond .eq off, 3)) (ht : (pc : Int) + off = (tgt : Int)) (kt : (a = 0) → V p l e R s m args below meth c P D Q nL n x f k z tgt lv st) (kf : ¬ (a = 0) → V p l e R s m args below meth c P D Q nL n x f k z (pc + 3) lv st) : V p l e R s m args below meth c P D Q nL n x f k z pc lv (.int a :: st) := fun H locs ls hP hz hS hl => lv_if_eq C.1 C.2.1 hdg ht (fun h => kt h H locs ls hP hz hS hl) (fun h => kf h H locs ls hP hz hS hl)
theorem v_icmp_eq (C : Cx p l s m args meth c P D cc nL ret own) {a b : Int32} {off : Int} {tgt : Nat} (hdg : decode cc pc = .ok (.if_icmp .eq off, 3)) (ht : (pc : Int) + off = (tgt : Int)) (kt : (a = b) → V p l e R s m args below meth c P D Q nL n x f k z tgt lv st) (kf : ¬ (a = b) → V p l e R s m args below meth c P D Q nL n x f k z (pc + 3) lv st) : V p l e R s m args below meth c P D Q nL n x f k z pc lv (.int b :: .int a :: st) := fun H locs ls hP hz hS hl => lv_icmp_eq C.1 C.2.1 hdg ht (fun h => kt h H locs ls hP hz hS hl) (fun h => kf h H locs ls hP hz hS hl)
theorem v_if_ne (C : Cx p l s m args meth c P D cc nL ret own) {a : Int32} {off : Int} {tgt : Nat} (hdg : decode cc pc = .ok (.ifCond .ne off, 3)) (ht : (pc : Int) + off = (tgt : Int)) (kt : (¬ a = 0) → V p l e R s m args below meth c P D Q nL n x f k z tgt lv st) (kf : a = 0 → V p l e R s m args below meth c P D Q nL n x f k z (pc + 3) lv st) : V p l e R s m args below meth c P D Q nL n x f k z pc lv (.int a :: st) := fun H locs ls hP hz hS hl => lv_if_ne C.1 C.2.1 hdg ht (fun h => kt h H locs ls hP hz hS hl) (fun h => kf h H locs ls hP hz hS hl)
theorem v_icmp_ne (C : Cx p l s m args meth c P D cc nL ret own) {a b : Int32} {off : Int} {tgt : Nat} (hdg : decode cc pc = .ok (.if_icmp .ne off, 3)) (ht : (pc : Int) + off = (tgt : Int)) (kt : (¬ a = b) → V p l e R s m args below meth c P D Q nL n x f k z tgt lv st) (kf : a = b → V p l e R s m args below meth c P D Q nL n x f k z (pc + 3) lv st) : V p l e R s m args below meth c P D Q nL n x f k z pc lv (.int b :: .int a :: st) := fun H locs ls hP hz hS hl => lv_icmp_ne C.1 C.2.1 hdg ht (fun h => kt h H locs ls hP hz hS hl) (fun h => kf h H locs ls hP hz hS hl)
theorem v_if_lt (C : Cx p l s m args meth c P D cc nL ret own) {a : Int32} {off : Int} {tgt : Nat} (hdg : decode cc pc = .ok (.ifCond .lt off, 3)) (ht : (pc : Int) + off = (tgt : Int)) (kt : (a < 0) → V p l e R s m args below meth c P D Q nL n x f k z tgt lv st) (kf : ¬ (a < 0) → V p l e R s m args below meth c P D Q nL n x f k z (pc + 3) lv st) : V p l e R s m args below meth c P D Q nL n x f k z pc lv (.int a :: st) := fun H locs ls hP hz hS hl => lv_if_lt C.1 C.2.1 hdg ht (fun h => kt h H locs ls hP hz hS hl) (fun h => kf h H locs ls hP hz hS hl)
theorem v_icmp_lt (C : Cx p l s m args meth c P D cc nL ret own) {a b : Int32} {off : Int} {tgt : Nat} (hdg : decode cc pc = .ok (.if_icmp .lt off, 3)) (ht : (pc : Int) + off = (tgt : Int)) (kt : (a < b) → V p l e R s m args below meth c P D Q nL n x f k z tgt lv st) (kf : ¬ (a < b) → V p l e R s m args below meth c P D Q nL n x f k z (pc + 3) lv st) : V p l e R s m args below meth c P D Q nL n x f k z pc lv (.int b :: .int a :: st) := fun H locs ls hP hz hS hl => lv_icmp_lt C.1 C.2.1 hdg ht (fun h => kt h H locs ls hP hz hS hl) (fun h => kf h H locs ls hP hz hS hl)
theorem v_if_ge (C : Cx p l s m args meth c P D cc nL ret own) {a : Int32} {off : Int} {tgt : Nat} (hdg : decode cc pc = .ok (.ifCond .ge off, 3)) (ht : (pc : Int) + off = (tgt : Int)) (kt : (0 ≤ a) → V p l e R s m args below meth c P D Q nL n x f k z tgt lv st) (kf : ¬ (0 ≤ a) → V p l e R s m args below meth c P D Q nL n x f k z (pc + 3) lv st) : V p l e R s m args below meth c P D Q nL n x f k z pc lv (.int a :: st) := fun H locs ls hP hz hS hl => lv_if_ge C.1 C.2.1 hdg ht (fun h => kt h H locs ls hP hz hS hl) (fun h => kf h H locs ls hP hz hS hl)
theorem v_icmp_ge (C : Cx p l s m args meth c P D cc nL ret own) {a b : Int32} {off : Int} {tgt : Nat} (hdg : decode cc pc = .ok (.if_icmp .ge off, 3)) (ht : (pc : Int) + off = (tgt : Int)) (kt : (b ≤ a) → V p l e R s m args below meth c P D Q nL n x f k z tgt lv st) (kf : ¬ (b ≤ a) → V p l e R s m args below meth c P D Q nL n x f k z (pc + 3) lv st) : V p l e R s m args below meth c P D Q nL n x f k z pc lv (.int b :: .int a :: st) := fun H locs ls hP hz hS hl => lv_icmp_ge C.1 C.2.1 hdg ht (fun h => kt h H locs ls hP hz hS hl) (fun h => kf h H locs ls hP hz hS hl)
theorem v_if_gt (C : Cx p l s m args meth c P D cc nL ret own) {a : Int32} {off : Int} {tgt : Nat} (hdg : decode cc pc = .ok (.ifCond .gt off, 3)) (ht : (pc : Int) + off = (tgt : Int)) (kt : (0 < a) → V p l e R s m args below meth c P D Q nL n x f k z tgt lv st) (kf : ¬ (0 < a) → V p l e R s m args below meth c P D Q nL n x f k z (pc + 3) lv st) : V p l e R s m args below meth c P D Q nL n x f k z pc lv (.int a :: st) := fun H locs ls hP hz hS hl => lv_if_gt C.1 C.2.1 hdg ht (fun h => kt h H locs ls hP hz hS hl) (fun h => kf h H locs ls hP hz hS hl)
theorem v_icmp_gt (C : Cx p l s m args meth c P D cc nL ret own) {a b : Int32} {off : Int} {tgt : Nat} (hdg : decode cc pc = .ok (.if_icmp .gt off, 3)) (ht : (pc : Int) + off = (tgt : Int)) (kt : (b < a) → V p l e R s m args below meth c P D Q nL n x f k z tgt lv st) (kf : ¬ (b < a) → V p l e R s m args below meth c P D Q nL n x f k z (pc + 3) lv st) : V p l e R s m args below meth c P D Q nL n x f k z pc lv (.int b :: .int a :: st) := fun H locs ls hP hz hS hl => lv_icmp_gt C.1 C.2.1 hdg ht (fun h => kt h H locs ls hP hz hS hl) (fun h => kf h H locs ls hP hz hS hl)
theorem v_if_le (C : Cx p l s m args meth c P D cc nL ret own) {a : Int32} {off : Int} {tgt : Nat} (hdg : decode cc pc = .ok (.ifCond .le off, 3)) (ht : (pc : Int) + off = (tgt : Int)) (kt : (a ≤ 0) → V p l e R s m args below meth c P D Q nL n x f k z tgt lv st) (kf : ¬ (a ≤ 0) → V p l e R s m args below meth c P D Q nL n x f k z (pc + 3) lv st) : V p l e R s m args below meth c P D Q nL n x f k z pc lv (.int a :: st) := fun H locs ls hP hz hS hl => lv_if_le C.1 C.2.1 hdg ht (fun h => kt h H locs ls hP hz hS hl) (fun h => kf h H locs ls hP hz hS hl)
theorem v_icmp_le (C : Cx p l s m args meth c P D cc nL ret own) {a b : Int32} {off : Int} {tgt : Nat} (hdg : decode cc pc = .ok (.if_icmp .le off, 3)) (ht : (pc : Int) + off = (tgt : Int)) (kt : (a ≤ b) → V p l e R s m args below meth c P D Q nL n x f k z tgt lv st) (kf : ¬ (a ≤ b) → V p l e R s m args below meth c P D Q nL n x f k z (pc + 3) lv st) : V p l e R s m args below meth c P D Q nL n x f k z pc lv (.int b :: .int a :: st) := fun H locs ls hP hz hS hl => lv_icmp_le C.1 C.2.1 hdg ht (fun h => kt h H locs ls hP hz hS hl) (fun h => kf h H locs ls hP hz hS hl)
theorem v_goto (C : Cx p l s m args meth c P D cc nL ret own) {off : Int} {tgt : Nat} (hdg : decode cc pc = .ok (.goto off, 3)) (ht : (pc : Int) + off = (tgt : Int)) (kk : V p l e R s m args below meth c P D Q nL n x f k z tgt lv st) : V p l e R s m args below meth c P D Q nL n x f k z pc lv st := fun H locs ls hP hz hS hl => lv_goto C.1 C.2.1 hdg ht (kk H locs ls hP hz hS hl)
theorem v_tableOut (C : Cx p l s m args meth c P D cc nL ret own) {dflt lo hi : Int} {offs : Array Int} {len : Nat} {a : Int32} {tgt : Nat} (hdg : decode cc pc = .ok (.tableswitch dflt lo hi offs, len)) (h : a.toInt < lo ∨ hi < a.toInt) (ht : (pc : Int) + dflt = (tgt : Int)) (kk : V p l e R s m args below meth c P D Q nL n x f k z tgt lv st) : V p l e R s m args below meth c P D Q nL n x f k z pc lv (.int a :: st) := fun H locs ls hP hz hS hl => lv_tableOut C.1 C.2.1 hdg h ht (kk H locs ls hP hz hS hl)
theorem v_tableIn (C : Cx p l s m args meth c P D cc nL ret own) {dflt lo hi : Int} {offs : Array Int} {len : Nat} {a : Int32} {off : Int} {tgt : Nat} (hdg : decode cc pc = .ok (.tableswitch dflt lo hi offs, len)) (h1 : ¬ a.toInt < lo) (h2 : ¬ hi < a.toInt) (ho : offs[(a.toInt - lo).toNat]? = some off) (ht : (pc : Int) + off = (tgt : Int)) (kk : V p l e R s m args below meth c P D Q nL n x f k z tgt lv st) : V p l e R s m args below meth c P D Q nL n x f k z pc lv (.int a :: st) := fun H locs ls hP hz hS hl => lv_tableIn C.1 C.2.1 hdg h1 h2 ho ht (kk H locs ls hP hz hS hl)
theorem v_lookup (C : Cx p l s m args meth c P D cc nL ret own) {dflt : Int} {ps : Array (Int × Int)} {len : Nat} {a : Int32} {off : Int} {tgt : Nat} (hdg : decode cc pc = .ok (.lookupswitch dflt ps, len)) (hp : (ps.toList.zip (ps.toList.drop 1)).all (fun (a, next) => a.1 < next.1) = true) (ho : Op.lookupswitch.offset ps.toList dflt a.toInt = off) (ht : (pc : Int) + off = (tgt : Int)) (kk : V p l e R s m args below meth c P D Q nL n x f k z tgt lv st) : V p l e R s m args below meth c P D Q nL n x f k z pc lv (.int a :: st) := fun H locs ls hP hz hS hl => lv_lookup C.1 C.2.1 hdg hp ho ht (kk H locs ls hP hz hS hl)
theorem v_lv {lv' : List (Nat × Value)} (ks : List Nat) (h : lv_pick lv ks = lv') (kk : V p l e R s m args below meth c P D Q nL n x f k z pc lv' st) : V p l e R s m args below meth c P D Q nL n x f k z pc lv st := fun H locs ls hP hz hS hl => kk H locs ls hP hz hS (lv_sub hl ks h)
theorem v_top {a : Int32} (kk : ∀ b : Int32, b = a → V p l e R s m args below meth c P D Q nL n x f k z pc lv (.int b :: st)) : V p l e R s m args below meth c P D Q nL n x f k z pc lv (.int a :: st) := kk a rfl
theorem v_eq {f' : Nat → va_E} (h : f = f') (kk : V p l e R s m args below meth c P D Q nL n x f' k z pc lv st) : V p l e R s m args below meth c P D Q nL n x f k z pc lv st := by rw [h]; exact kk
theorem v_widen {k' z' : Nat} (h1 : k ≤ k') (h2 : z ≤ z') (kk : V p l e R s m args below meth c P D Q nL n x f k' z' pc lv st) : V p l e R s m args below meth c P D Q nL n x f k z pc lv st := fun H locs ls hP hz hS hl => W.widen h1 h2 (kk H locs ls hP hz hS hl)
theorem v_min (C : Cx p l s m args meth c P D cc nL ret own) {index : Nat} {a b : Int32} (hdg : decode cc pc = .ok (.invokestatic index, 3)) (hlink : Cond.methodLink own index Lib.Math.min.name ∈ gtb) (hstat : Cond.static Lib.Math.min.name ∈ gtb) (hini : Cond.initialized "java/lang/Math" ∈ gtb) (hcode : Cond.code Lib.Math.min.name Lib.Math.min.code 2 (some .int) ∈ gtb) (hR : 1 ≤ R.frames) (hlo : (st.map fun v => v.category).sum + 13 ≤ R.locals) (hc : k ≤ R.cells) (hs : z ≤ R.slots) (kk : V p l e R s m args below meth c P D Q nL n x f k z (pc + 3) lv (.int (if b < a then b else a) :: st)) : V p l e R s m args below meth c P D Q nL n x f k z pc lv (.int b :: .int a :: st) := by
  intro H locs ls hP hz hS hl
  obtain ⟨hx, hb, hml, hown, hts, -⟩ := C
  exact va_mmin hx hb (hml.trans hl.1.symm) hown (hts _ hlink) (hts _ hstat) (hts _ hini) (hts _ hcode) hR hlo hc hs hdg (kk H locs ls hP hz hS hl)
theorem v_max (C : Cx p l s m args meth c P D cc nL ret own) {index : Nat} {a b : Int32} (hdg : decode cc pc = .ok (.invokestatic index, 3)) (hlink : Cond.methodLink own index Lib.Math.max.name ∈ gtb) (hstat : Cond.static Lib.Math.max.name ∈ gtb) (hini : Cond.initialized "java/lang/Math" ∈ gtb) (hcode : Cond.code Lib.Math.max.name Lib.Math.max.code 2 (some .int) ∈ gtb) (hR : 1 ≤ R.frames) (hlo : (st.map fun v => v.category).sum + 13 ≤ R.locals) (hc : k ≤ R.cells) (hs : z ≤ R.slots) (kk : V p l e R s m args below meth c P D Q nL n x f k z (pc + 3) lv (.int (if a < b then b else a) :: st)) : V p l e R s m args below meth c P D Q nL n x f k z pc lv (.int b :: .int a :: st) := by
  intro H locs ls hP hz hS hl
  obtain ⟨hx, hb, hml, hown, hts, -⟩ := C
  exact va_mmax hx hb (hml.trans hl.1.symm) hown (hts _ hlink) (hts _ hstat) (hts _ hini) (hts _ hcode) hR hlo hc hs hdg (kk H locs ls hP hz hS hl)
theorem v_ldc2 (C : Cx p l s m args meth c P D cc nL ret own) {index : Nat} {v : Int64} (hdg : decode cc pc = .ok (.ldc2_w index, 3)) (hk : Cond.constantLong own index v ∈ gtb) (kk : V p l e R s m args below meth c P D Q nL n x f k z (pc + 3) lv (.long v :: st)) : V p l e R s m args below meth c P D Q nL n x f k z pc lv st := fun H locs ls hP hz hS hl => lv_ldc2 C.1 C.2.1 C.2.2.2.1 (C.2.2.2.2.1 _ hk) hdg (kk H locs ls hP hz hS hl)
end VRows
end
section
/-! ROWS THAT READ AND WRITE CELLS -/
section VHeap
variable {p : Program} {l : Launch} {e : Env} {R : Room} {s : State} {m : MethodId} {args : Array Value} {below : List Frame} {meth : Method} {c : Code} {P : L5} {D : va_G} {Q : State → Prop} {nL n : Nat} {x : Prop} {f : Nat → va_E} {k z pc : Nat} {lv : List (Nat × Value)} {st : List Value} {cc : ByteArray} {ret : Option FieldType} {own : String}
variable {N F T : Nat → Nat → Int32} {K : Nat → Int32} {A : Nat → Nat → Int32} {w : Int64}
theorem v_get (C : Cx p l s m args meth c P D cc nL ret own) (q : Nat × Nat) (hq : kd (ik q) = q ∧ ik q < 97) {ci : Nat} {r : vw_C} {fs : List Value} (hc : vwCl[ci]? = some r) (hfs : cK P N F T K A w q = .inr (ci, fs)) (hin : ∀ w ∈ u_ws r.1 r.2.1 r.2.2, w ∈ gtb) (kf : Nat) (hk : kf < r.2.2) {index : Nat} (hlink : Cond.fieldLink own index (r.2.1 kf).1 (r.2.1 kf).2.1 (r.2.1 kf).2.2.1 ∈ gtb) {u : Value} (hv : fs[kf]? = some u) (hdg : decode cc pc = .ok (.getfield index, 3)) (kk : V p l e R s m args below meth c P D Q nL 97 False (cw P N F T K A w) k z (pc + 3) lv (u :: st)) : V p l e R s m args below meth c P D Q nL 97 False (cw P N F T K A w) k z pc lv (.ref (P.1 + ik q) :: st) := by
  intro H locs ls hP hz hS hl
  obtain ⟨hx, hb, hml, hown, hts, hr, hlk, hK, ho, hST⟩ := C
  exact va_get hx hb hts hin hown hK hP (ik q) (by rw [cw_get q hq.1 hq.2, hfs]) hc kf hk (hts _ hlink) (fun _ h9 => h9) hv hdg (kk H locs ls hP hz hS hl)
theorem v_put (C : Cx p l s m args meth c P D cc nL ret own) {N' F' T' : Nat → Nat → Int32} {K' : Nat → Int32} (q : Nat × Nat) (hq : kd (ik q) = q ∧ ik q < 97) {ci : Nat} {r : vw_C} {fs : List Value} (hc : vwCl[ci]? = some r) (hfs : cK P N F T K A w q = .inr (ci, fs)) (hin : ∀ w ∈ u_ws r.1 r.2.1 r.2.2, w ∈ gtb) (ty0 : Nat → FieldType) (hty : ∀ k, k < r.2.2 → parseFieldDescriptor (r.2.1 k).2.2.1 = some (ty0 k)) (hnm : ∀ a, a < r.2.2 → ∀ b, b < r.2.2 → a ≠ b → (r.2.1 a).2.1 ≠ (r.2.1 b).2.1) (kf : Nat) (hk : kf < r.2.2) (hti : ty0 kf = .int) (hfin : (r.2.1 kf).2.2.2 = false) (hlen : kf < fs.length) {index : Nat} (hlink : Cond.fieldLink own index (r.2.1 kf).1 (r.2.1 kf).2.1 (r.2.1 kf).2.2.1 ∈ gtb) {a : Int32} (hdg : decode cc pc = .ok (.putfield index, 3)) (he : cK P N' F' T' K' A w q = .inr (ci, fs.set kf (.int a))) (ho9 : ∀ q', q' ≠ q → (∃ a, a < 97 ∧ kd a = q') → cK P N' F' T' K' A w q' = cK P N F T K A w q') (kk : V p l e R s m args below meth c P D Q nL 97 False (cw P N' F' T' K' A w) k z (pc + 3) lv st) : V p l e R s m args below meth c P D Q nL 97 False (cw P N F T K A w) k z pc lv (.int a :: .ref (P.1 + ik q) :: st) := by
  intro H locs ls hP hz hS hl
  obtain ⟨hx, hb, hml, hown, hts, hr, hlk, hK, ho, hST⟩ := C
  refine va_put (ty := .int) hx hb hts hin ty0 hty hnm hown hK hP (wl_D _ _ _) hS (ik q) (by rw [cw_get q hq.1 hq.2, hfs]) hc kf hk (hts _ hlink) (fun _ h9 => h9) hfin (by rw [hty kf hk, hti]) (vp_nar_int a) rfl hlen hdg (fun H1 locs1 hP1 _ hS1 => ?_)
  rw [cw_set (P := P) (N := N) (F := F) (T := T) (K := K) (A := A) (w := w) (N' := N') (F' := F') (T' := T') (K' := K') (A' := A) (w' := w) q hq.1 hq.2 he ho9] at hP1
  exact kk H1 locs1 ls hP1 (fun h9 => h9.elim) hS1 hl
theorem v_getN (C : Cx p l s m args meth c P D cc nL ret own) (q : Nat × Nat) (hq : kd (ik q) = q ∧ ik q < 97) {ci : Nat} {r : vw_C} {fs : List Value} (hc : vwCl[ci]? = some r) (hfs : cK P N F T K A w q = .inr (ci, fs)) (hin : ∀ w ∈ u_ws r.1 r.2.1 r.2.2, w ∈ gtb) (kf : Nat) (hk : kf < r.2.2) {index : Nat} (hlink : (own, index, (r.2.1 kf).1, (r.2.1 kf).2.1, (r.2.1 kf).2.2.1) ∈ nwF) {u : Value} (hv : fs[kf]? = some u) (hdg : decode cc pc = .ok (.getfield index, 3)) (kk : V p l e R s m args below meth c P D Q nL 97 False (cw P N F T K A w) k z (pc + 3) lv (u :: st)) : V p l e R s m args below meth c P D Q nL 97 False (cw P N F T K A w) k z pc lv (.ref (P.1 + ik q) :: st) := by
  intro H locs ls hP hz hS hl
  obtain ⟨hx, hb, hml, hown, hts, hr, hlk, hK, ho, hST⟩ := C
  exact va_getN hx hb hts hin hown hK hP (ik q) (by rw [cw_get q hq.1 hq.2, hfs]) hc kf hk (va_Nw.use rfl (hST.2.2.2.1 _ hlink)) (fun _ h9 => h9) hv hdg (kk H locs ls hP hz hS hl)
theorem v_putN (C : Cx p l s m args meth c P D cc nL ret own) {N' F' T' : Nat → Nat → Int32} {K' : Nat → Int32} (q : Nat × Nat) (hq : kd (ik q) = q ∧ ik q < 97) {ci : Nat} {r : vw_C} {fs : List Value} (hc : vwCl[ci]? = some r) (hfs : cK P N F T K A w q = .inr (ci, fs)) (hin : ∀ w ∈ u_ws r.1 r.2.1 r.2.2, w ∈ gtb) (ty0 : Nat → FieldType) (hty : ∀ k, k < r.2.2 → parseFieldDescriptor (r.2.1 k).2.2.1 = some (ty0 k)) (hnm : ∀ a, a < r.2.2 → ∀ b, b < r.2.2 → a ≠ b → (r.2.1 a).2.1 ≠ (r.2.1 b).2.1) (kf : Nat) (hk : kf < r.2.2) (hti : ty0 kf = .int) (hfin : (r.2.1 kf).2.2.2 = false) (hlen : kf < fs.length) {index : Nat} (hlink : (own, index, (r.2.1 kf).1, (r.2.1 kf).2.1, (r.2.1 kf).2.2.1) ∈ nwF) {a : Int32} (hdg : decode cc pc = .ok (.putfield index, 3)) (he : cK P N' F' T' K' A w q = .inr (ci, fs.set kf (.int a))) (ho9 : ∀ q', q' ≠ q → (∃ a, a < 97 ∧ kd a = q') → cK P N' F' T' K' A w q' = cK P N F T K A w q') (kk : V p l e R s m args below meth c P D Q nL 97 False (cw P N' F' T' K' A w) k z (pc + 3) lv st) : V p l e R s m args below meth c P D Q nL 97 False (cw P N F T K A w) k z pc lv (.int a :: .ref (P.1 + ik q) :: st) := by
  intro H locs ls hP hz hS hl
  obtain ⟨hx, hb, hml, hown, hts, hr, hlk, hK, ho, hST⟩ := C
  refine va_putN (ty := .int) hx hb hts hin ty0 hty hnm hown hK hP (wl_D _ _ _) hS (ik q) (by rw [cw_get q hq.1 hq.2, hfs]) hc kf hk (va_Nw.use rfl (hST.2.2.2.1 _ hlink)) (fun _ h9 => h9) hfin (by rw [hty kf hk, hti]) (vp_nar_int a) rfl hlen hdg (fun H1 locs1 hP1 _ hS1 => ?_)
  rw [cw_set (P := P) (N := N) (F := F) (T := T) (K := K) (A := A) (w := w) (N' := N') (F' := F') (T' := T') (K' := K') (A' := A) (w' := w) q hq.1 hq.2 he ho9] at hP1
  exact kk H1 locs1 ls hP1 (fun h9 => h9.elim) hS1 hl
theorem v_ldG (C : Cx p l s m args meth c P D cc nL ret own) (q : Nat × Nat) (hq : kd (ik q) = q ∧ ik q < 97) {len : Nat} {g : Nat → Int32} (hg : cK P N F T K A w q = .inl (P.2.1, len, .inl g)) {i a : Int32} (hin : vp_in i len) (ha : g i.toNatClampNeg = a) (hdg : decode cc pc = .ok (.iaload, 1)) (kk : V p l e R s m args below meth c P D Q nL 97 False (cw P N F T K A w) k z (pc + 1) lv (.int a :: st)) : V p l e R s m args below meth c P D Q nL 97 False (cw P N F T K A w) k z pc lv (.int i :: .ref (P.1 + ik q) :: st) := by
  intro H locs ls hP hz hS hl
  obtain ⟨hx, hb, hml, hown, hts, hr, hlk, hK, ho, hST⟩ := C
  refine va_iald hx hb hK hP (ik q) 0 (by rw [cw_get q hq.1 hq.2, hg]) rfl hin hdg ?_
  rw [ha]
  exact kk H locs ls hP hz hS hl
theorem v_lenG (C : Cx p l s m args meth c P D cc nL ret own) (q : Nat × Nat) (hq : kd (ik q) = q ∧ ik q < 97) {len : Nat} {g : Nat → Int32} (hg : cK P N F T K A w q = .inl (P.2.1, len, .inl g)) {a : Int32} (ha : Int32.ofNat len = a) (hdg : decode cc pc = .ok (.arraylength, 1)) (kk : V p l e R s m args below meth c P D Q nL 97 False (cw P N F T K A w) k z (pc + 1) lv (.int a :: st)) : V p l e R s m args below meth c P D Q nL 97 False (cw P N F T K A w) k z pc lv (.ref (P.1 + ik q) :: st) := by
  intro H locs ls hP hz hS hl
  obtain ⟨hx, hb, hml, hown, hts, hr, hlk, hK, ho, hST⟩ := C
  exact va_alen hx hb hK hP (ik q) 0 (by rw [cw_get q hq.1 hq.2, hg]) rfl ha hdg (kk H locs ls hP hz hS hl)
theorem v_stG (C : Cx p l s m args meth c P D cc nL ret own) {N' : Nat → Nat → Int32} {A' : Nat → Nat → Int32} (q : Nat × Nat) (hq : kd (ik q) = q ∧ ik q < 97) {len : Nat} {g : Nat → Int32} (hg : cK P N F T K A w q = .inl (P.2.1, len, .inl g)) {i a : Int32} (hin : vp_in i len) (hdg : decode cc pc = .ok (.iastore, 1)) (he : cK P N' F T K A' w q = .inl (P.2.1, len, .inl (upd g i.toNatClampNeg a))) (ho9 : ∀ q', q' ≠ q → (∃ a, a < 97 ∧ kd a = q') → cK P N' F T K A' w q' = cK P N F T K A w q') (kk : V p l e R s m args below meth c P D Q nL 97 False (cw P N' F T K A' w) k z (pc + 1) lv st) : V p l e R s m args below meth c P D Q nL 97 False (cw P N F T K A w) k z pc lv (.int a :: .int i :: .ref (P.1 + ik q) :: st) := by
  intro H locs ls hP hz hS hl
  obtain ⟨hx, hb, hml, hown, hts, hr, hlk, hK, ho, hST⟩ := C
  refine va_iast hx hb hK hP (wl_D _ _ _) hS (ik q) 0 (by rw [cw_get q hq.1 hq.2, hg]) rfl hin hdg (fun H1 locs1 hP1 _ hS1 => ?_)
  rw [cw_set (P := P) (N := N) (F := F) (T := T) (K := K) (A := A) (w := w) (N' := N') (F' := F) (T' := T) (K' := K) (A' := A') (w' := w) q hq.1 hq.2 he ho9] at hP1
  exact kk H1 locs1 ls hP1 (fun h9 => h9.elim) hS1 hl
theorem v_aaN (C : Cx p l s m args meth c P D cc nL ret own) {t : Nat} (ht : t < 2) {i : Int32} (hin : vp_in i 12) (hdg : decode cc pc = .ok (.aaload, 1)) (kk : V p l e R s m args below meth c P D Q nL 97 False (cw P N F T K A w) k z (pc + 1) lv (.ref (rN P (12 * t + i.toNatClampNeg)) :: st)) : V p l e R s m args below meth c P D Q nL 97 False (cw P N F T K A w) k z pc lv (.int i :: .ref (rNA P t) :: st) := by
  intro H locs ls hP hz hS hl
  obtain ⟨hx, hb, hml, hown, hts, hr, hlk, hK, ho, hST⟩ := C
  exact va_aldq hx hb hK hP (ik (2, t)) 1 (cw_get (2, t) (kdNA t ht).1 (kdNA t ht).2) rfl hin hdg (kk H locs ls hP hz hS hl)
theorem v_aaF (C : Cx p l s m args meth c P D cc nL ret own) {t : Nat} (ht : t < 2) {i : Int32} (hin : vp_in i 4) (hdg : decode cc pc = .ok (.aaload, 1)) (kk : V p l e R s m args below meth c P D Q nL 97 False (cw P N F T K A w) k z (pc + 1) lv (.ref (rF P (4 * t + i.toNatClampNeg)) :: st)) : V p l e R s m args below meth c P D Q nL 97 False (cw P N F T K A w) k z pc lv (.int i :: .ref (rFA P t) :: st) := by
  intro H locs ls hP hz hS hl
  obtain ⟨hx, hb, hml, hown, hts, hr, hlk, hK, ho, hST⟩ := C
  exact va_aldq hx hb hK hP (ik (6, t)) 2 (cw_get (6, t) (kdFA t ht).1 (kdFA t ht).2) rfl hin hdg (kk H locs ls hP hz hS hl)
theorem v_gS (C : Cx p l s m args meth c P D cc nL ret own) (b : Nat) {q : String × String × (Nat → Int32)} (hq : stQ[b]? = some q) {index : Nat} (hlink : Cond.fieldLink own index q.1 q.2.1 "[I" ∈ gtb) (hdg : decode cc pc = .ok (.getstatic index, 3)) (kk : V p l e R s m args below meth c P D Q nL n x f k z (pc + 3) lv (.ref (rS P b) :: st)) : V p l e R s m args below meth c P D Q nL n x f k z pc lv st := by
  intro H locs ls hP hz hS hl
  obtain ⟨hx, hb, hml, hown, hts, hr, hlk, hK, ho, hST⟩ := C
  exact va_gets hx hb (hST.1 b q hq).1 hS hown (hts _ hlink) (fun _ h9 => h9) hdg (kk H locs ls hP hz hS hl)
theorem v_gSN (C : Cx p l s m args meth c P D cc nL ret own) (b : Nat) {q : String × String × (Nat → Int32)} (hq : stQ[b]? = some q) {index : Nat} (hlink : (own, index, q.1, q.2.1, "[I") ∈ nwF) (hdg : decode cc pc = .ok (.getstatic index, 3)) (kk : V p l e R s m args below meth c P D Q nL n x f k z (pc + 3) lv (.ref (rS P b) :: st)) : V p l e R s m args below meth c P D Q nL n x f k z pc lv st := by
  intro H locs ls hP hz hS hl
  obtain ⟨hx, hb, hml, hown, hts, hr, hlk, hK, ho, hST⟩ := C
  exact va_getsN hx hb (hST.1 b q hq).1 hS hown (va_Nw.use rfl (hST.2.2.2.1 _ hlink)) (fun _ h9 => h9) hdg (kk H locs ls hP hz hS hl)
theorem v_ldS (C : Cx p l s m args meth c P D cc nL ret own) (b : Nat) {q : String × String × (Nat → Int32)} (hq : stQ[b]? = some q) {i : Int32} (hin : vp_in i 4) (hdg : decode cc pc = .ok (.iaload, 1)) (kk : V p l e R s m args below meth c P D Q nL n x f k z (pc + 1) lv (.int (q.2.2 i.toNatClampNeg) :: st)) : V p l e R s m args below meth c P D Q nL n x f k z pc lv (.int i :: .ref (rS P b) :: st) := by
  intro H locs ls hP hz hS hl
  obtain ⟨hx, hb, hml, hown, hts, hr, hlk, hK, ho, hST⟩ := C
  exact va_ti hx hb (hST.1 b q hq).2 hS hin rfl hdg (kk H locs ls hP hz hS hl)
theorem cK_frN {N1 N2 : Nat → Nat → Int32} {j : Nat} (h : ∀ i, i ≠ j → N1 i = N2 i) {q' : Nat × Nat} (h3 : q' ≠ (3, j) ∨ ∀ t, t < 12 → N1 j t = N2 j t) (h4 : q' ≠ (4, j) ∨ ∀ t, t < 4 → N1 j (12 + t) = N2 j (12 + t)) (h5 : q' ≠ (5, j) ∨ ∀ t, t < 4 → N1 j (16 + t) = N2 j (16 + t)) : cK P N1 F T K A w q' = cK P N2 F T K A w q' := by
  obtain ⟨κ, i⟩ := q'
  by_cases hi : i = j
  · subst hi
    match κ with
    | 0 => rfl
    | 1 => rfl
    | 2 => rfl
    | 3 =>
      have g := h3.resolve_left (fun z => z rfl)
      simp only [cK, g 0 (by omega), g 1 (by omega), g 2 (by omega), g 3 (by omega), g 4 (by omega), g 5 (by omega), g 6 (by omega), g 7 (by omega), g 8 (by omega), g 9 (by omega), g 10 (by omega), g 11 (by omega)]
    | 4 =>
      have g := h4.resolve_left (fun z => z rfl)
      have e : (fun t => if t < 4 then N1 i (12 + t) else 0) = (fun t => if t < 4 then N2 i (12 + t) else 0) := by
        funext t
        by_cases ht : t < 4
        · rw [if_pos ht, if_pos ht, g t ht]
        · rw [if_neg ht, if_neg ht]
      simp only [cK, e]
    | 5 =>
      have g := h5.resolve_left (fun z => z rfl)
      have e : (fun t => if t < 4 then N1 i (16 + t) else 0) = (fun t => if t < 4 then N2 i (16 + t) else 0) := by
        funext t
        by_cases ht : t < 4
        · rw [if_pos ht, if_pos ht, g t ht]
        · rw [if_neg ht, if_neg ht]
      simp only [cK, e]
    | 6 => rfl
    | 7 => rfl
    | 8 => rfl
    | 9 => rfl
    | κ + 10 => rfl
  · have e := h i hi
    match κ with
    | 0 => rfl
    | 1 => rfl
    | 2 => rfl
    | 3 => simp only [cK, e]
    | 4 => simp only [cK, e]
    | 5 => simp only [cK, e]
    | 6 => rfl
    | 7 => rfl
    | 8 => rfl
    | 9 => rfl
    | κ + 10 => rfl
theorem cK_frF {F1 F2 : Nat → Nat → Int32} {j : Nat} (h : ∀ i, i ≠ j → F1 i = F2 i) {q' : Nat × Nat} (h3 : q' ≠ (7, j)) : cK P N F1 T K A w q' = cK P N F2 T K A w q' := by
  obtain ⟨κ, i⟩ := q'
  match κ with
  | 0 => rfl
  | 1 => rfl
  | 2 => rfl
  | 3 => rfl
  | 4 => rfl
  | 5 => rfl
  | 6 => rfl
  | 7 =>
    have e := h i (fun z => h3 (by rw [z]))
    simp only [cK, e]
  | 8 => rfl
  | 9 => rfl
  | κ + 10 => rfl
theorem cK_frT {T1 T2 : Nat → Nat → Int32} {j : Nat} (h : ∀ i, i ≠ j → T1 i = T2 i) {q' : Nat × Nat} (h3 : q' ≠ (1, j)) : cK P N F T1 K A w q' = cK P N F T2 K A w q' := by
  obtain ⟨κ, i⟩ := q'
  match κ with
  | 0 => rfl
  | 1 =>
    have e := h i (fun z => h3 (by rw [z]))
    simp only [cK, e]
  | 2 => rfl
  | 3 => rfl
  | 4 => rfl
  | 5 => rfl
  | 6 => rfl
  | 7 => rfl
  | 8 => rfl
  | 9 => rfl
  | κ + 10 => rfl
theorem cK_frA {A1 A2 : Nat → Nat → Int32} {j : Nat} (h : ∀ i, i ≠ j → A1 i = A2 i) {q' : Nat × Nat} (h3 : q' ≠ (9, j)) : cK P N F T K A1 w q' = cK P N F T K A2 w q' := by
  obtain ⟨κ, i⟩ := q'
  match κ with
  | 0 => rfl
  | 1 => rfl
  | 2 => rfl
  | 3 => rfl
  | 4 => rfl
  | 5 => rfl
  | 6 => rfl
  | 7 => rfl
  | 8 => rfl
  | 9 =>
    have e := h i (fun z => h3 (by rw [z]))
    simp only [cK, e]
  | κ + 10 => rfl
theorem cK_frK {K1 K2 : Nat → Int32} {q' : Nat × Nat} (h3 : q'.1 ≠ 8) : cK P N F T K1 A w q' = cK P N F T K2 A w q' := by
  obtain ⟨κ, i⟩ := q'
  match κ with
  | 0 => rfl
  | 1 => rfl
  | 2 => rfl
  | 3 => rfl
  | 4 => rfl
  | 5 => rfl
  | 6 => rfl
  | 7 => rfl
  | 8 => exact absurd rfl h3
  | 9 => rfl
  | κ + 10 => rfl
theorem up_off {α : Type} {f : Nat → α} {j : Nat} {a b : α} : ∀ i, i ≠ j → va_up f j a i = va_up f j b i := fun i hi => by rw [va_up_ne _ _ hi, va_up_ne _ _ hi]
/-- the fields of a nailer, of a fogger, of a trade, of the model, by their rows of numbers -/
def nF (P : L5) (j : Nat) (v : Nat → Int32) : List Value := [.int (v 0), .int (v 1), .int (v 2), .int (v 3), .int (v 4), .int (v 5), .int (v 6), .int (v 7), .int (v 8), .int (v 9), .int (v 10), .int (v 11), .ref (rL P j), .ref (rB P j)]
def fF (v : Nat → Int32) : List Value := [.int (v 0), .int (v 1), .int (v 2), .int (v 3), .int (v 4), .int (v 5)]
def tF (P : L5) (t : Nat) (v : Nat → Int32) : List Value := [.int (v 0), .int (v 1), .ref (rNA P t), .ref (rFA P t)]
def xF (P : L5) : List Value := [.ref (rT P 0), .ref (rT P 1), .ref (rN P 24)]
def mF (P : L5) (v : Nat → Int32) : List Value := [.int (v 0), .int (v 1), .int (v 2), .ref (rA P 0), .ref (rA P 1), .ref (rA P 2), .ref (rA P 3), .ref (rA P 4)]
theorem cK3 {j : Nat} {v : Nat → Int32} : cK P (va_up N j v) F T K A w (3, j) = .inr (1, nF P j v) := by
  simp only [cK, nF, va_up_self]
theorem cK4 {j : Nat} {v : Nat → Int32} : cK P (va_up N j v) F T K A w (4, j) = .inl (P.2.1, 4, .inl (fun i => if i < 4 then v (12 + i) else 0)) := by
  simp only [cK, va_up_self]
theorem cK5 {j : Nat} {v : Nat → Int32} : cK P (va_up N j v) F T K A w (5, j) = .inl (P.2.1, 4, .inl (fun i => if i < 4 then v (16 + i) else 0)) := by
  simp only [cK, va_up_self]
theorem cK7 {j : Nat} {v : Nat → Int32} : cK P N (va_up F j v) T K A w (7, j) = .inr (0, fF v) := by
  simp only [cK, fF, va_up_self]
theorem cK1 {j : Nat} {v : Nat → Int32} : cK P N F (va_up T j v) K A w (1, j) = .inr (2, tF P j v) := by
  simp only [cK, tF, va_up_self]
theorem nF_set {j : Nat} {v : Nat → Int32} {a : Int32} : ∀ kf, kf < 12 → nF P j (upd v kf a) = (nF P j v).set kf (.int a) := by
  intro kf hk
  rcases (show kf = 0 ∨ kf = 1 ∨ kf = 2 ∨ kf = 3 ∨ kf = 4 ∨ kf = 5 ∨ kf = 6 ∨ kf = 7 ∨ kf = 8 ∨ kf = 9 ∨ kf = 10 ∨ kf = 11 by omega) with rfl | rfl | rfl | rfl | rfl | rfl | rfl | rfl | rfl | rfl | rfl | rfl <;> rfl
theorem fF_set {v : Nat → Int32} {a : Int32} : ∀ kf, kf < 6 → fF (upd v kf a) = (fF v).set kf (.int a) := by
  intro kf hk
  rcases (show kf = 0 ∨ kf = 1 ∨ kf = 2 ∨ kf = 3 ∨ kf = 4 ∨ kf = 5 by omega) with rfl | rfl | rfl | rfl | rfl | rfl <;> rfl
theorem tF_set {t : Nat} {v : Nat → Int32} {a : Int32} : ∀ kf, kf < 2 → tF P t (upd v kf a) = (tF P t v).set kf (.int a) := by
  intro kf hk
  rcases (show kf = 0 ∨ kf = 1 by omega) with rfl | rfl <;> rfl
theorem mF_set {v : Nat → Int32} {a : Int32} : ∀ kf, kf < 3 → mF P (upd v kf a) = (mF P v).set kf (.int a) := by
  intro kf hk
  rcases (show kf = 0 ∨ kf = 1 ∨ kf = 2 by omega) with rfl | rfl | rfl <;> rfl
theorem upd_ge {v : Nat → Int32} {kf t : Nat} {a : Int32} (h : t ≠ kf) : upd v kf a t = v t := if_neg h
theorem tyN_int : ∀ kf, kf < 12 → tyX1 kf = .int ∧ (TX1 kf).2.2.2 = false := by decide +kernel
theorem tyF_int : ∀ kf, kf < 6 → tyX0 kf = .int ∧ (TX0 kf).2.2.2 = false := by decide +kernel
theorem tyT_int : ∀ kf, kf < 2 → tyX2 kf = .int ∧ (TX2 kf).2.2.2 = false := by decide +kernel
theorem tyM_int : ∀ kf, kf < 3 → tyX4 kf = .int ∧ (TX4 kf).2.2.2 = false := by decide +kernel
theorem v_gN (C : Cx p l s m args meth c P D cc nL ret own) {j : Nat} {v : Nat → Int32} (hj : j < 25) (kf : Nat) (hk : kf < 14) {index : Nat} (hlink : Cond.fieldLink own index (((RX1, TX1, 14)).2.1 kf).1 (((RX1, TX1, 14)).2.1 kf).2.1 (((RX1, TX1, 14)).2.1 kf).2.2.1 ∈ gtb) {u : Value} (hv : (nF P j v)[kf]? = some u) (hdg : decode cc pc = .ok (.getfield index, 3)) (kk : V p l e R s m args below meth c P D Q nL 97 False (cw P (va_up N j v) F T K A w) k z (pc + 3) lv (u :: st)) : V p l e R s m args below meth c P D Q nL 97 False (cw P (va_up N j v) F T K A w) k z pc lv (.ref (rN P j) :: st) := v_get C (3, j) (kdN j hj) (ci := 1) (r := (RX1, TX1, 14)) rfl cK3 inX1g kf hk hlink hv hdg kk
theorem v_gF (C : Cx p l s m args meth c P D cc nL ret own) {j : Nat} {v : Nat → Int32} (hj : j < 8) (kf : Nat) (hk : kf < 6) {index : Nat} (hlink : Cond.fieldLink own index (((RX0, TX0, 6)).2.1 kf).1 (((RX0, TX0, 6)).2.1 kf).2.1 (((RX0, TX0, 6)).2.1 kf).2.2.1 ∈ gtb) {u : Value} (hv : (fF v)[kf]? = some u) (hdg : decode cc pc = .ok (.getfield index, 3)) (kk : V p l e R s m args below meth c P D Q nL 97 False (cw P N (va_up F j v) T K A w) k z (pc + 3) lv (u :: st)) : V p l e R s m args below meth c P D Q nL 97 False (cw P N (va_up F j v) T K A w) k z pc lv (.ref (rF P j) :: st) := v_get C (7, j) (kdF j hj) (ci := 0) (r := (RX0, TX0, 6)) rfl cK7 inX0g kf hk hlink hv hdg kk
theorem v_gT (C : Cx p l s m args meth c P D cc nL ret own) {j : Nat} {v : Nat → Int32} (hj : j < 2) (kf : Nat) (hk : kf < 4) {index : Nat} (hlink : Cond.fieldLink own index (((RX2, TX2, 4)).2.1 kf).1 (((RX2, TX2, 4)).2.1 kf).2.1 (((RX2, TX2, 4)).2.1 kf).2.2.1 ∈ gtb) {u : Value} (hv : (tF P j v)[kf]? = some u) (hdg : decode cc pc = .ok (.getfield index, 3)) (kk : V p l e R s m args below meth c P D Q nL 97 False (cw P N F (va_up T j v) K A w) k z (pc + 3) lv (u :: st)) : V p l e R s m args below meth c P D Q nL 97 False (cw P N F (va_up T j v) K A w) k z pc lv (.ref (rT P j) :: st) := v_get C (1, j) (kdT j hj) (ci := 2) (r := (RX2, TX2, 4)) rfl cK1 inX2g kf hk hlink hv hdg kk
theorem v_gX (C : Cx p l s m args meth c P D cc nL ret own)  (kf : Nat) (hk : kf < 3) {index : Nat} (hlink : Cond.fieldLink own index (((RX3, TX3, 3)).2.1 kf).1 (((RX3, TX3, 3)).2.1 kf).2.1 (((RX3, TX3, 3)).2.1 kf).2.2.1 ∈ gtb) {u : Value} (hv : (xF P)[kf]? = some u) (hdg : decode cc pc = .ok (.getfield index, 3)) (kk : V p l e R s m args below meth c P D Q nL 97 False (cw P N F T K A w) k z (pc + 3) lv (u :: st)) : V p l e R s m args below meth c P D Q nL 97 False (cw P N F T K A w) k z pc lv (.ref (rX P) :: st) := v_get C (0, 0) kdX (ci := 3) (r := (RX3, TX3, 3)) rfl rfl inX3g kf hk hlink hv hdg kk
theorem v_gM (C : Cx p l s m args meth c P D cc nL ret own)  (kf : Nat) (hk : kf < 8) {index : Nat} (hlink : Cond.fieldLink own index (((RX4, TX4, 8)).2.1 kf).1 (((RX4, TX4, 8)).2.1 kf).2.1 (((RX4, TX4, 8)).2.1 kf).2.2.1 ∈ gtb) {u : Value} (hv : (mF P K)[kf]? = some u) (hdg : decode cc pc = .ok (.getfield index, 3)) (kk : V p l e R s m args below meth c P D Q nL 97 False (cw P N F T K A w) k z (pc + 3) lv (u :: st)) : V p l e R s m args below meth c P D Q nL 97 False (cw P N F T K A w) k z pc lv (.ref (rM P) :: st) := v_get C (8, 0) kdM (ci := 4) (r := (RX4, TX4, 8)) rfl rfl inX4g kf hk hlink hv hdg kk
theorem v_pN (C : Cx p l s m args meth c P D cc nL ret own) {j : Nat} {v : Nat → Int32} (hj : j < 25) (kf : Nat) (hk : kf < 12) {index : Nat} (hlink : Cond.fieldLink own index (((RX1, TX1, 14)).2.1 kf).1 (((RX1, TX1, 14)).2.1 kf).2.1 (((RX1, TX1, 14)).2.1 kf).2.2.1 ∈ gtb) {a : Int32} (hdg : decode cc pc = .ok (.putfield index, 3)) (kk : V p l e R s m args below meth c P D Q nL 97 False (cw P (va_up N j (upd v kf a)) F T K A w) k z (pc + 3) lv st) : V p l e R s m args below meth c P D Q nL 97 False (cw P (va_up N j v) F T K A w) k z pc lv (.int a :: .ref (rN P j) :: st) := v_put C (3, j) (kdN j hj) (ci := 1) (r := (RX1, TX1, 14)) (fs := (nF P j v)) rfl cK3 inX1g tyX1 tyX1_ok nmX1 kf (show kf < 14 by omega) (tyN_int kf hk).1 (tyN_int kf hk).2 (show kf < 14 by omega) hlink hdg (cK3.trans (by rw [nF_set kf hk])) (fun q9 h9 _ => cK_frN up_off (Or.inl h9) (Or.inr fun t _ => by rw [va_up_self, va_up_self, upd_ge (by omega)]) (Or.inr fun t _ => by rw [va_up_self, va_up_self, upd_ge (by omega)])) kk
theorem v_pF (C : Cx p l s m args meth c P D cc nL ret own) {j : Nat} {v : Nat → Int32} (hj : j < 8) (kf : Nat) (hk : kf < 6) {index : Nat} (hlink : Cond.fieldLink own index (((RX0, TX0, 6)).2.1 kf).1 (((RX0, TX0, 6)).2.1 kf).2.1 (((RX0, TX0, 6)).2.1 kf).2.2.1 ∈ gtb) {a : Int32} (hdg : decode cc pc = .ok (.putfield index, 3)) (kk : V p l e R s m args below meth c P D Q nL 97 False (cw P N (va_up F j (upd v kf a)) T K A w) k z (pc + 3) lv st) : V p l e R s m args below meth c P D Q nL 97 False (cw P N (va_up F j v) T K A w) k z pc lv (.int a :: .ref (rF P j) :: st) := v_put C (7, j) (kdF j hj) (ci := 0) (r := (RX0, TX0, 6)) (fs := (fF v)) rfl cK7 inX0g tyX0 tyX0_ok nmX0 kf (show kf < 6 by omega) (tyF_int kf hk).1 (tyF_int kf hk).2 (show kf < 6 by omega) hlink hdg (cK7.trans (by rw [fF_set kf hk])) (fun q9 h9 _ => cK_frF up_off h9) kk
theorem v_pT (C : Cx p l s m args meth c P D cc nL ret own) {j : Nat} {v : Nat → Int32} (hj : j < 2) (kf : Nat) (hk : kf < 2) {index : Nat} (hlink : Cond.fieldLink own index (((RX2, TX2, 4)).2.1 kf).1 (((RX2, TX2, 4)).2.1 kf).2.1 (((RX2, TX2, 4)).2.1 kf).2.2.1 ∈ gtb) {a : Int32} (hdg : decode cc pc = .ok (.putfield index, 3)) (kk : V p l e R s m args below meth c P D Q nL 97 False (cw P N F (va_up T j (upd v kf a)) K A w) k z (pc + 3) lv st) : V p l e R s m args below meth c P D Q nL 97 False (cw P N F (va_up T j v) K A w) k z pc lv (.int a :: .ref (rT P j) :: st) := v_put C (1, j) (kdT j hj) (ci := 2) (r := (RX2, TX2, 4)) (fs := (tF P j v)) rfl cK1 inX2g tyX2 tyX2_ok nmX2 kf (show kf < 4 by omega) (tyT_int kf hk).1 (tyT_int kf hk).2 (show kf < 4 by omega) hlink hdg (cK1.trans (by rw [tF_set kf hk])) (fun q9 h9 _ => cK_frT up_off h9) kk
theorem v_pM (C : Cx p l s m args meth c P D cc nL ret own) (kf : Nat) (hk : kf < 3) {index : Nat} (hlink : Cond.fieldLink own index ((RX4, TX4, 8).2.1 kf).1 ((RX4, TX4, 8).2.1 kf).2.1 ((RX4, TX4, 8).2.1 kf).2.2.1 ∈ gtb) {a : Int32} (hdg : decode cc pc = .ok (.putfield index, 3)) (kk : V p l e R s m args below meth c P D Q nL 97 False (cw P N F T (upd K kf a) A w) k z (pc + 3) lv st) : V p l e R s m args below meth c P D Q nL 97 False (cw P N F T K A w) k z pc lv (.int a :: .ref (rM P) :: st) := v_put C (8, 0) kdM (ci := 4) (r := (RX4, TX4, 8)) (fs := mF P K) rfl rfl inX4g tyX4 tyX4_ok nmX4 kf (show kf < 8 by omega) (tyM_int kf hk).1 (tyM_int kf hk).2 (show kf < 8 by omega) hlink hdg (show Sum.inr (4, mF P (upd K kf a)) = _ by rw [mF_set kf hk]) (fun q9 h9 hr9 => by
  obtain ⟨a9, ha9, rfl⟩ := hr9
  exact cK_frK (fun h8 => h9 (kd8 a9 ha9 h8))) kk
theorem v_gNN (C : Cx p l s m args meth c P D cc nL ret own) {j : Nat} {v : Nat → Int32} (hj : j < 25) (kf : Nat) (hk : kf < 14) {index : Nat} (hlink : (own, index, (((RX1, TX1, 14)).2.1 kf).1, (((RX1, TX1, 14)).2.1 kf).2.1, (((RX1, TX1, 14)).2.1 kf).2.2.1) ∈ nwF) {u : Value} (hv : (nF P j v)[kf]? = some u) (hdg : decode cc pc = .ok (.getfield index, 3)) (kk : V p l e R s m args below meth c P D Q nL 97 False (cw P (va_up N j v) F T K A w) k z (pc + 3) lv (u :: st)) : V p l e R s m args below meth c P D Q nL 97 False (cw P (va_up N j v) F T K A w) k z pc lv (.ref (rN P j) :: st) := v_getN C (3, j) (kdN j hj) (ci := 1) (r := (RX1, TX1, 14)) rfl cK3 inX1g kf hk hlink hv hdg kk
theorem v_gFN (C : Cx p l s m args meth c P D cc nL ret own) {j : Nat} {v : Nat → Int32} (hj : j < 8) (kf : Nat) (hk : kf < 6) {index : Nat} (hlink : (own, index, (((RX0, TX0, 6)).2.1 kf).1, (((RX0, TX0, 6)).2.1 kf).2.1, (((RX0, TX0, 6)).2.1 kf).2.2.1) ∈ nwF) {u : Value} (hv : (fF v)[kf]? = some u) (hdg : decode cc pc = .ok (.getfield index, 3)) (kk : V p l e R s m args below meth c P D Q nL 97 False (cw P N (va_up F j v) T K A w) k z (pc + 3) lv (u :: st)) : V p l e R s m args below meth c P D Q nL 97 False (cw P N (va_up F j v) T K A w) k z pc lv (.ref (rF P j) :: st) := v_getN C (7, j) (kdF j hj) (ci := 0) (r := (RX0, TX0, 6)) rfl cK7 inX0g kf hk hlink hv hdg kk
theorem v_gTN (C : Cx p l s m args meth c P D cc nL ret own) {j : Nat} {v : Nat → Int32} (hj : j < 2) (kf : Nat) (hk : kf < 4) {index : Nat} (hlink : (own, index, (((RX2, TX2, 4)).2.1 kf).1, (((RX2, TX2, 4)).2.1 kf).2.1, (((RX2, TX2, 4)).2.1 kf).2.2.1) ∈ nwF) {u : Value} (hv : (tF P j v)[kf]? = some u) (hdg : decode cc pc = .ok (.getfield index, 3)) (kk : V p l e R s m args below meth c P D Q nL 97 False (cw P N F (va_up T j v) K A w) k z (pc + 3) lv (u :: st)) : V p l e R s m args below meth c P D Q nL 97 False (cw P N F (va_up T j v) K A w) k z pc lv (.ref (rT P j) :: st) := v_getN C (1, j) (kdT j hj) (ci := 2) (r := (RX2, TX2, 4)) rfl cK1 inX2g kf hk hlink hv hdg kk
theorem v_gXN (C : Cx p l s m args meth c P D cc nL ret own)  (kf : Nat) (hk : kf < 3) {index : Nat} (hlink : (own, index, (((RX3, TX3, 3)).2.1 kf).1, (((RX3, TX3, 3)).2.1 kf).2.1, (((RX3, TX3, 3)).2.1 kf).2.2.1) ∈ nwF) {u : Value} (hv : (xF P)[kf]? = some u) (hdg : decode cc pc = .ok (.getfield index, 3)) (kk : V p l e R s m args below meth c P D Q nL 97 False (cw P N F T K A w) k z (pc + 3) lv (u :: st)) : V p l e R s m args below meth c P D Q nL 97 False (cw P N F T K A w) k z pc lv (.ref (rX P) :: st) := v_getN C (0, 0) kdX (ci := 3) (r := (RX3, TX3, 3)) rfl rfl inX3g kf hk hlink hv hdg kk
theorem v_gMN (C : Cx p l s m args meth c P D cc nL ret own)  (kf : Nat) (hk : kf < 8) {index : Nat} (hlink : (own, index, (((RX4, TX4, 8)).2.1 kf).1, (((RX4, TX4, 8)).2.1 kf).2.1, (((RX4, TX4, 8)).2.1 kf).2.2.1) ∈ nwF) {u : Value} (hv : (mF P K)[kf]? = some u) (hdg : decode cc pc = .ok (.getfield index, 3)) (kk : V p l e R s m args below meth c P D Q nL 97 False (cw P N F T K A w) k z (pc + 3) lv (u :: st)) : V p l e R s m args below meth c P D Q nL 97 False (cw P N F T K A w) k z pc lv (.ref (rM P) :: st) := v_getN C (8, 0) kdM (ci := 4) (r := (RX4, TX4, 8)) rfl rfl inX4g kf hk hlink hv hdg kk
theorem v_pNN (C : Cx p l s m args meth c P D cc nL ret own) {j : Nat} {v : Nat → Int32} (hj : j < 25) (kf : Nat) (hk : kf < 12) {index : Nat} (hlink : (own, index, (((RX1, TX1, 14)).2.1 kf).1, (((RX1, TX1, 14)).2.1 kf).2.1, (((RX1, TX1, 14)).2.1 kf).2.2.1) ∈ nwF) {a : Int32} (hdg : decode cc pc = .ok (.putfield index, 3)) (kk : V p l e R s m args below meth c P D Q nL 97 False (cw P (va_up N j (upd v kf a)) F T K A w) k z (pc + 3) lv st) : V p l e R s m args below meth c P D Q nL 97 False (cw P (va_up N j v) F T K A w) k z pc lv (.int a :: .ref (rN P j) :: st) := v_putN C (3, j) (kdN j hj) (ci := 1) (r := (RX1, TX1, 14)) (fs := (nF P j v)) rfl cK3 inX1g tyX1 tyX1_ok nmX1 kf (show kf < 14 by omega) (tyN_int kf hk).1 (tyN_int kf hk).2 (show kf < 14 by omega) hlink hdg (cK3.trans (by rw [nF_set kf hk])) (fun q9 h9 _ => cK_frN up_off (Or.inl h9) (Or.inr fun t _ => by rw [va_up_self, va_up_self, upd_ge (by omega)]) (Or.inr fun t _ => by rw [va_up_self, va_up_self, upd_ge (by omega)])) kk
theorem v_pFN (C : Cx p l s m args meth c P D cc nL ret own) {j : Nat} {v : Nat → Int32} (hj : j < 8) (kf : Nat) (hk : kf < 6) {index : Nat} (hlink : (own, index, (((RX0, TX0, 6)).2.1 kf).1, (((RX0, TX0, 6)).2.1 kf).2.1, (((RX0, TX0, 6)).2.1 kf).2.2.1) ∈ nwF) {a : Int32} (hdg : decode cc pc = .ok (.putfield index, 3)) (kk : V p l e R s m args below meth c P D Q nL 97 False (cw P N (va_up F j (upd v kf a)) T K A w) k z (pc + 3) lv st) : V p l e R s m args below meth c P D Q nL 97 False (cw P N (va_up F j v) T K A w) k z pc lv (.int a :: .ref (rF P j) :: st) := v_putN C (7, j) (kdF j hj) (ci := 0) (r := (RX0, TX0, 6)) (fs := (fF v)) rfl cK7 inX0g tyX0 tyX0_ok nmX0 kf (show kf < 6 by omega) (tyF_int kf hk).1 (tyF_int kf hk).2 (show kf < 6 by omega) hlink hdg (cK7.trans (by rw [fF_set kf hk])) (fun q9 h9 _ => cK_frF up_off h9) kk
theorem v_pTN (C : Cx p l s m args meth c P D cc nL ret own) {j : Nat} {v : Nat → Int32} (hj : j < 2) (kf : Nat) (hk : kf < 2) {index : Nat} (hlink : (own, index, (((RX2, TX2, 4)).2.1 kf).1, (((RX2, TX2, 4)).2.1 kf).2.1, (((RX2, TX2, 4)).2.1 kf).2.2.1) ∈ nwF) {a : Int32} (hdg : decode cc pc = .ok (.putfield index, 3)) (kk : V p l e R s m args below meth c P D Q nL 97 False (cw P N F (va_up T j (upd v kf a)) K A w) k z (pc + 3) lv st) : V p l e R s m args below meth c P D Q nL 97 False (cw P N F (va_up T j v) K A w) k z pc lv (.int a :: .ref (rT P j) :: st) := v_putN C (1, j) (kdT j hj) (ci := 2) (r := (RX2, TX2, 4)) (fs := (tF P j v)) rfl cK1 inX2g tyX2 tyX2_ok nmX2 kf (show kf < 4 by omega) (tyT_int kf hk).1 (tyT_int kf hk).2 (show kf < 4 by omega) hlink hdg (cK1.trans (by rw [tF_set kf hk])) (fun q9 h9 _ => cK_frT up_off h9) kk
theorem v_ldL (C : Cx p l s m args meth c P D cc nL ret own) {j : Nat} {v : Nat → Int32} (hj : j < 25) {i : Int32} (hin : vp_in i 4) (hdg : decode cc pc = .ok (.iaload, 1)) (kk : V p l e R s m args below meth c P D Q nL 97 False (cw P (va_up N j v) F T K A w) k z (pc + 1) lv (.int (v (12 + i.toNatClampNeg)) :: st)) : V p l e R s m args below meth c P D Q nL 97 False (cw P (va_up N j v) F T K A w) k z pc lv (.int i :: .ref (rL P j) :: st) := v_ldG C (4, j) (kdL j hj) cK4 hin (if_pos (Nat.not_le.mp fun q => hin (Or.inr q))) hdg kk
theorem v_ldB (C : Cx p l s m args meth c P D cc nL ret own) {j : Nat} {v : Nat → Int32} (hj : j < 25) {i : Int32} (hin : vp_in i 4) (hdg : decode cc pc = .ok (.iaload, 1)) (kk : V p l e R s m args below meth c P D Q nL 97 False (cw P (va_up N j v) F T K A w) k z (pc + 1) lv (.int (v (16 + i.toNatClampNeg)) :: st)) : V p l e R s m args below meth c P D Q nL 97 False (cw P (va_up N j v) F T K A w) k z pc lv (.int i :: .ref (rB P j) :: st) := v_ldG C (5, j) (kdB j hj) cK5 hin (if_pos (Nat.not_le.mp fun q => hin (Or.inr q))) hdg kk
theorem upd_sh {v : Nat → Int32} {b t : Nat} {a : Int32} (ht : t < 4) : (fun i => if i < 4 then upd v (b + t) a (b + i) else 0) = upd (fun i => if i < 4 then v (b + i) else 0) t a := by
  funext i
  by_cases hi : i = t
  · subst hi
    simp [upd, ht]
  · by_cases h4 : i < 4
    · simp only [upd, h4, if_true, if_neg hi, if_neg (show ¬ b + i = b + t by omega)]
    · simp only [upd, h4, if_false, if_neg hi]
theorem v_stL (C : Cx p l s m args meth c P D cc nL ret own) {j : Nat} {v : Nat → Int32} (hj : j < 25) {i a : Int32} (hin : vp_in i 4) (hdg : decode cc pc = .ok (.iastore, 1)) (kk : V p l e R s m args below meth c P D Q nL 97 False (cw P (va_up N j (upd v (12 + i.toNatClampNeg) a)) F T K A w) k z (pc + 1) lv st) : V p l e R s m args below meth c P D Q nL 97 False (cw P (va_up N j v) F T K A w) k z pc lv (.int a :: .int i :: .ref (rL P j) :: st) := by
  have h4 : i.toNatClampNeg < 4 := Nat.not_le.mp fun q => hin (Or.inr q)
  exact v_stG C (4, j) (kdL j hj) cK4 hin hdg (cK4.trans (by rw [upd_sh h4])) (fun q9 h9 _ => cK_frN up_off (Or.inr fun t ht => by rw [va_up_self, va_up_self, upd_ge (by omega)]) (Or.inl h9) (Or.inr fun t _ => by rw [va_up_self, va_up_self, upd_ge (by omega)])) kk
theorem v_stB (C : Cx p l s m args meth c P D cc nL ret own) {j : Nat} {v : Nat → Int32} (hj : j < 25) {i a : Int32} (hin : vp_in i 4) (hdg : decode cc pc = .ok (.iastore, 1)) (kk : V p l e R s m args below meth c P D Q nL 97 False (cw P (va_up N j (upd v (16 + i.toNatClampNeg) a)) F T K A w) k z (pc + 1) lv st) : V p l e R s m args below meth c P D Q nL 97 False (cw P (va_up N j v) F T K A w) k z pc lv (.int a :: .int i :: .ref (rB P j) :: st) := by
  have h4 : i.toNatClampNeg < 4 := Nat.not_le.mp fun q => hin (Or.inr q)
  exact v_stG C (5, j) (kdB j hj) cK5 hin hdg (cK5.trans (by rw [upd_sh h4])) (fun q9 h9 _ => cK_frN up_off (Or.inr fun t ht => by rw [va_up_self, va_up_self, upd_ge (by omega)]) (Or.inr fun t _ => by rw [va_up_self, va_up_self, upd_ge (by omega)]) (Or.inl h9)) kk
theorem v_ldA (C : Cx p l s m args meth c P D cc nL ret own) {b : Nat} (hj : b < 5) {i a : Int32} (hin : vp_in i (lenA b)) (ha : A b i.toNatClampNeg = a) (hdg : decode cc pc = .ok (.iaload, 1)) (kk : V p l e R s m args below meth c P D Q nL 97 False (cw P N F T K A w) k z (pc + 1) lv (.int a :: st)) : V p l e R s m args below meth c P D Q nL 97 False (cw P N F T K A w) k z pc lv (.int i :: .ref (rA P b) :: st) := v_ldG C (9, b) (kdA b hj) rfl hin ha hdg kk
theorem v_stA (C : Cx p l s m args meth c P D cc nL ret own) {b : Nat} (hj : b < 5) {i a : Int32} (hin : vp_in i (lenA b)) {A' : Nat → Nat → Int32} (hA : va_up A b (upd (A b) i.toNatClampNeg a) = A') (hdg : decode cc pc = .ok (.iastore, 1)) (kk : V p l e R s m args below meth c P D Q nL 97 False (cw P N F T K A' w) k z (pc + 1) lv st) : V p l e R s m args below meth c P D Q nL 97 False (cw P N F T K A w) k z pc lv (.int a :: .int i :: .ref (rA P b) :: st) := by
  subst hA
  exact v_stG C (9, b) (kdA b hj) rfl hin hdg (by simp only [cK, va_up_self]) (fun q9 h9 _ => cK_frA (fun i9 hi9 => va_up_ne _ _ hi9) h9) kk
theorem v_lenA (C : Cx p l s m args meth c P D cc nL ret own) {b : Nat} (hj : b < 5) {a : Int32} (ha : Int32.ofNat (lenA b) = a) (hdg : decode cc pc = .ok (.arraylength, 1)) (kk : V p l e R s m args below meth c P D Q nL 97 False (cw P N F T K A w) k z (pc + 1) lv (.int a :: st)) : V p l e R s m args below meth c P D Q nL 97 False (cw P N F T K A w) k z pc lv (.ref (rA P b) :: st) := v_lenG C (9, b) (kdA b hj) rfl ha hdg kk
end VHeap
end
