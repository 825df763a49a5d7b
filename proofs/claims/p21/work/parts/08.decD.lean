theorem dX3_advise_82 : decode cX3_advise 82 = .ok (.iinc 5 1, 3) := by decide +kernel
theorem dX3_advise_85 : decode cX3_advise 85 = .ok (.goto (-65), 3) := by decide +kernel
theorem dX3_advise_88 : decode cX3_advise 88 = .ok (.iload_n 3, 1) := by decide +kernel
theorem dX3_advise_89 : decode cX3_advise 89 = .ok (.ireturn, 1) := by decide +kernel
theorem dX3_richest_0 : decode cX3_richest 0 = .ok (.iconst (-1), 1) := by decide +kernel
theorem dX3_richest_1 : decode cX3_richest 1 = .ok (.istore_n 1, 1) := by decide +kernel
theorem dX3_richest_2 : decode cX3_richest 2 = .ok (.iconst 0, 1) := by decide +kernel
theorem dX3_richest_3 : decode cX3_richest 3 = .ok (.istore_n 2, 1) := by decide +kernel
theorem dX3_richest_4 : decode cX3_richest 4 = .ok (.iconst 0, 1) := by decide +kernel
theorem dX3_richest_5 : decode cX3_richest 5 = .ok (.istore_n 3, 1) := by decide +kernel
theorem dX3_richest_6 : decode cX3_richest 6 = .ok (.iload_n 3, 1) := by decide +kernel
theorem dX3_richest_7 : decode cX3_richest 7 = .ok (.aload_n 0, 1) := by decide +kernel
theorem dX3_richest_8 : decode cX3_richest 8 = .ok (.getfield 10, 3) := by decide +kernel
theorem dX3_richest_11 : decode cX3_richest 11 = .ok (.getfield 34, 3) := by decide +kernel
theorem dX3_richest_14 : decode cX3_richest 14 = .ok (.if_icmp .ge 51, 3) := by decide +kernel
theorem dX3_richest_17 : decode cX3_richest 17 = .ok (.aload_n 0, 1) := by decide +kernel
theorem dX3_richest_18 : decode cX3_richest 18 = .ok (.getfield 10, 3) := by decide +kernel
theorem dX3_richest_21 : decode cX3_richest 21 = .ok (.getfield 45, 3) := by decide +kernel
theorem dX3_richest_24 : decode cX3_richest 24 = .ok (.iload_n 3, 1) := by decide +kernel
theorem dX3_richest_25 : decode cX3_richest 25 = .ok (.aaload, 1) := by decide +kernel
theorem dX3_richest_26 : decode cX3_richest 26 = .ok (.getfield 64, 3) := by decide +kernel
theorem dX3_richest_29 : decode cX3_richest 29 = .ok (.aload_n 0, 1) := by decide +kernel
theorem dX3_richest_30 : decode cX3_richest 30 = .ok (.getfield 10, 3) := by decide +kernel
theorem dX3_richest_33 : decode cX3_richest 33 = .ok (.getfield 45, 3) := by decide +kernel
theorem dX3_richest_36 : decode cX3_richest 36 = .ok (.iload_n 3, 1) := by decide +kernel
theorem dX3_richest_37 : decode cX3_richest 37 = .ok (.aaload, 1) := by decide +kernel
theorem dX3_richest_38 : decode cX3_richest 38 = .ok (.getfield 56, 3) := by decide +kernel
theorem dX3_richest_41 : decode cX3_richest 41 = .ok (.isub, 1) := by decide +kernel
theorem dX3_richest_42 : decode cX3_richest 42 = .ok (.istore 4, 2) := by decide +kernel
theorem dX3_richest_44 : decode cX3_richest 44 = .ok (.iload_n 1, 1) := by decide +kernel
theorem dX3_richest_45 : decode cX3_richest 45 = .ok (.ifCond .lt 9, 3) := by decide +kernel
theorem dX3_richest_48 : decode cX3_richest 48 = .ok (.iload 4, 2) := by decide +kernel
theorem dX3_richest_50 : decode cX3_richest 50 = .ok (.iload_n 2, 1) := by decide +kernel
theorem dX3_richest_51 : decode cX3_richest 51 = .ok (.if_icmp .le 8, 3) := by decide +kernel
theorem dX3_richest_54 : decode cX3_richest 54 = .ok (.iload_n 3, 1) := by decide +kernel
theorem dX3_richest_55 : decode cX3_richest 55 = .ok (.istore_n 1, 1) := by decide +kernel
theorem dX3_richest_56 : decode cX3_richest 56 = .ok (.iload 4, 2) := by decide +kernel
theorem dX3_richest_58 : decode cX3_richest 58 = .ok (.istore_n 2, 1) := by decide +kernel
theorem dX3_richest_59 : decode cX3_richest 59 = .ok (.iinc 3 1, 3) := by decide +kernel
theorem dX3_richest_62 : decode cX3_richest 62 = .ok (.goto (-56), 3) := by decide +kernel
theorem dX3_richest_65 : decode cX3_richest 65 = .ok (.iload_n 1, 1) := by decide +kernel
theorem dX3_richest_66 : decode cX3_richest 66 = .ok (.ireturn, 1) := by decide +kernel
theorem dX3_digest_0 : decode cX3_digest 0 = .ok (.ldc2_w 131, 3) := by decide +kernel
theorem dX3_digest_3 : decode cX3_digest 3 = .ok (.lstore_n 1, 1) := by decide +kernel
theorem dX3_digest_4 : decode cX3_digest 4 = .ok (.iconst 0, 1) := by decide +kernel
theorem dX3_digest_5 : decode cX3_digest 5 = .ok (.istore_n 3, 1) := by decide +kernel
theorem dX3_digest_6 : decode cX3_digest 6 = .ok (.iload_n 3, 1) := by decide +kernel
theorem dX3_digest_7 : decode cX3_digest 7 = .ok (.bipush 11, 2) := by decide +kernel
theorem dX3_digest_9 : decode cX3_digest 9 = .ok (.if_icmp .ge 25, 3) := by decide +kernel
theorem dX3_digest_12 : decode cX3_digest 12 = .ok (.lload_n 1, 1) := by decide +kernel
theorem dX3_digest_13 : decode cX3_digest 13 = .ok (.ldc2_w 133, 3) := by decide +kernel
theorem dX3_digest_16 : decode cX3_digest 16 = .ok (.lmul, 1) := by decide +kernel
theorem dX3_digest_17 : decode cX3_digest 17 = .ok (.aload_n 0, 1) := by decide +kernel
theorem dX3_digest_18 : decode cX3_digest 18 = .ok (.getfield 10, 3) := by decide +kernel
theorem dX3_digest_21 : decode cX3_digest 21 = .ok (.iload_n 3, 1) := by decide +kernel
theorem dX3_digest_22 : decode cX3_digest 22 = .ok (.invokevirtual 104, 3) := by decide +kernel
theorem dX3_digest_25 : decode cX3_digest 25 = .ok (.i2l, 1) := by decide +kernel
theorem dX3_digest_26 : decode cX3_digest 26 = .ok (.ladd, 1) := by decide +kernel
theorem dX3_digest_27 : decode cX3_digest 27 = .ok (.lstore_n 1, 1) := by decide +kernel
theorem dX3_digest_28 : decode cX3_digest 28 = .ok (.iinc 3 1, 3) := by decide +kernel
theorem dX3_digest_31 : decode cX3_digest 31 = .ok (.goto (-25), 3) := by decide +kernel
theorem dX3_digest_34 : decode cX3_digest 34 = .ok (.iconst 0, 1) := by decide +kernel
theorem dX3_digest_35 : decode cX3_digest 35 = .ok (.istore_n 3, 1) := by decide +kernel
theorem dX3_digest_36 : decode cX3_digest 36 = .ok (.iload_n 3, 1) := by decide +kernel
theorem dX3_digest_37 : decode cX3_digest 37 = .ok (.aload_n 0, 1) := by decide +kernel
theorem dX3_digest_38 : decode cX3_digest 38 = .ok (.getfield 10, 3) := by decide +kernel
theorem dX3_digest_41 : decode cX3_digest 41 = .ok (.getfield 34, 3) := by decide +kernel
theorem dX3_digest_44 : decode cX3_digest 44 = .ok (.if_icmp .ge 23, 3) := by decide +kernel
theorem dX3_digest_47 : decode cX3_digest 47 = .ok (.aload_n 0, 1) := by decide +kernel
theorem dX3_digest_48 : decode cX3_digest 48 = .ok (.getfield 10, 3) := by decide +kernel
theorem dX3_digest_51 : decode cX3_digest 51 = .ok (.getfield 45, 3) := by decide +kernel
theorem dX3_digest_54 : decode cX3_digest 54 = .ok (.iload_n 3, 1) := by decide +kernel
theorem dX3_digest_55 : decode cX3_digest 55 = .ok (.aaload, 1) := by decide +kernel
theorem dX3_digest_56 : decode cX3_digest 56 = .ok (.lload_n 1, 1) := by decide +kernel
theorem dX3_digest_57 : decode cX3_digest 57 = .ok (.invokevirtual 135, 3) := by decide +kernel
theorem dX3_digest_60 : decode cX3_digest 60 = .ok (.lstore_n 1, 1) := by decide +kernel
theorem dX3_digest_61 : decode cX3_digest 61 = .ok (.iinc 3 1, 3) := by decide +kernel
theorem dX3_digest_64 : decode cX3_digest 64 = .ok (.goto (-28), 3) := by decide +kernel
theorem dX3_digest_67 : decode cX3_digest 67 = .ok (.iconst 0, 1) := by decide +kernel
theorem dX3_digest_68 : decode cX3_digest 68 = .ok (.istore_n 3, 1) := by decide +kernel
theorem dX3_digest_69 : decode cX3_digest 69 = .ok (.iload_n 3, 1) := by decide +kernel
theorem dX3_digest_70 : decode cX3_digest 70 = .ok (.iconst 4, 1) := by decide +kernel
theorem dX3_digest_71 : decode cX3_digest 71 = .ok (.if_icmp .ge 43, 3) := by decide +kernel
theorem dX3_digest_74 : decode cX3_digest 74 = .ok (.iconst 0, 1) := by decide +kernel
theorem dX3_digest_75 : decode cX3_digest 75 = .ok (.istore 4, 2) := by decide +kernel
theorem dX3_digest_77 : decode cX3_digest 77 = .ok (.iload 4, 2) := by decide +kernel
theorem dX3_digest_79 : decode cX3_digest 79 = .ok (.bipush 6, 2) := by decide +kernel
theorem dX3_digest_81 : decode cX3_digest 81 = .ok (.if_icmp .ge 27, 3) := by decide +kernel
theorem dX3_digest_84 : decode cX3_digest 84 = .ok (.lload_n 1, 1) := by decide +kernel
theorem dX3_digest_85 : decode cX3_digest 85 = .ok (.ldc2_w 133, 3) := by decide +kernel
theorem dX3_digest_88 : decode cX3_digest 88 = .ok (.lmul, 1) := by decide +kernel
theorem dX3_digest_89 : decode cX3_digest 89 = .ok (.aload_n 0, 1) := by decide +kernel
theorem dX3_digest_90 : decode cX3_digest 90 = .ok (.getfield 10, 3) := by decide +kernel
theorem dX3_digest_93 : decode cX3_digest 93 = .ok (.iload_n 3, 1) := by decide +kernel
theorem dX3_digest_94 : decode cX3_digest 94 = .ok (.iload 4, 2) := by decide +kernel
theorem dX3_digest_96 : decode cX3_digest 96 = .ok (.invokevirtual 100, 3) := by decide +kernel
theorem dX3_digest_99 : decode cX3_digest 99 = .ok (.i2l, 1) := by decide +kernel
theorem dX3_digest_100 : decode cX3_digest 100 = .ok (.ladd, 1) := by decide +kernel
theorem dX3_digest_101 : decode cX3_digest 101 = .ok (.lstore_n 1, 1) := by decide +kernel
theorem dX3_digest_102 : decode cX3_digest 102 = .ok (.iinc 4 1, 3) := by decide +kernel
theorem dX3_digest_105 : decode cX3_digest 105 = .ok (.goto (-28), 3) := by decide +kernel
theorem dX3_digest_108 : decode cX3_digest 108 = .ok (.iinc 3 1, 3) := by decide +kernel
theorem dX3_digest_111 : decode cX3_digest 111 = .ok (.goto (-42), 3) := by decide +kernel
theorem dX3_digest_114 : decode cX3_digest 114 = .ok (.lload_n 1, 1) := by decide +kernel
theorem dX3_digest_115 : decode cX3_digest 115 = .ok (.lreturn, 1) := by decide +kernel
theorem dX3_needNailer_0 : decode cX3_needNailer 0 = .ok (.iload_n 1, 1) := by decide +kernel
theorem dX3_needNailer_1 : decode cX3_needNailer 1 = .ok (.aload_n 0, 1) := by decide +kernel
theorem dX3_needNailer_2 : decode cX3_needNailer 2 = .ok (.getfield 10, 3) := by decide +kernel
theorem dX3_needNailer_5 : decode cX3_needNailer 5 = .ok (.getfield 34, 3) := by decide +kernel
theorem dX3_needNailer_8 : decode cX3_needNailer 8 = .ok (.invokestatic 26, 3) := by decide +kernel
theorem dX3_needNailer_11 : decode cX3_needNailer 11 = .ok (.return_, 1) := by decide +kernel
theorem dX3_needIndex_0 : decode cX3_needIndex 0 = .ok (.iload_n 0, 1) := by decide +kernel
theorem dX3_needIndex_1 : decode cX3_needIndex 1 = .ok (.ifCond .lt 8, 3) := by decide +kernel
theorem dX3_needIndex_4 : decode cX3_needIndex 4 = .ok (.iload_n 0, 1) := by decide +kernel
theorem dX3_needIndex_5 : decode cX3_needIndex 5 = .ok (.iload_n 1, 1) := by decide +kernel
theorem dX3_needIndex_6 : decode cX3_needIndex 6 = .ok (.if_icmp .lt 13, 3) := by decide +kernel
theorem dX3_needIndex_9 : decode cX3_needIndex 9 = .ok (.new 117, 3) := by decide +kernel
theorem dX3_needIndex_12 : decode cX3_needIndex 12 = .ok (.dup, 1) := by decide +kernel
theorem dX3_needIndex_13 : decode cX3_needIndex 13 = .ok (.ldc 139, 2) := by decide +kernel
theorem dX3_needIndex_15 : decode cX3_needIndex 15 = .ok (.invokespecial 121, 3) := by decide +kernel
theorem dX3_needIndex_18 : decode cX3_needIndex 18 = .ok (.athrow, 1) := by decide +kernel
theorem dX3_needIndex_19 : decode cX3_needIndex 19 = .ok (.return_, 1) := by decide +kernel
theorem dX3_needWithin_0 : decode cX3_needWithin 0 = .ok (.iload_n 0, 1) := by decide +kernel
theorem dX3_needWithin_1 : decode cX3_needWithin 1 = .ok (.iload_n 1, 1) := by decide +kernel
theorem dX3_needWithin_2 : decode cX3_needWithin 2 = .ok (.if_icmp .lt 8, 3) := by decide +kernel
theorem dX3_needWithin_5 : decode cX3_needWithin 5 = .ok (.iload_n 0, 1) := by decide +kernel
theorem dX3_needWithin_6 : decode cX3_needWithin 6 = .ok (.iload_n 2, 1) := by decide +kernel
theorem dX3_needWithin_7 : decode cX3_needWithin 7 = .ok (.if_icmp .le 13, 3) := by decide +kernel
theorem dX3_needWithin_10 : decode cX3_needWithin 10 = .ok (.new 141, 3) := by decide +kernel
theorem dX3_needWithin_13 : decode cX3_needWithin 13 = .ok (.dup, 1) := by decide +kernel
theorem dX3_needWithin_14 : decode cX3_needWithin 14 = .ok (.ldc 143, 2) := by decide +kernel
theorem dX3_needWithin_16 : decode cX3_needWithin 16 = .ok (.invokespecial 145, 3) := by decide +kernel
theorem dX3_needWithin_19 : decode cX3_needWithin 19 = .ok (.athrow, 1) := by decide +kernel
theorem dX3_needWithin_20 : decode cX3_needWithin 20 = .ok (.return_, 1) := by decide +kernel
theorem dL_below_0 : decode cL_below 0 = .ok (.iload_n 0, 1) := by decide +kernel
theorem dL_below_1 : decode cL_below 1 = .ok (.ldc 7, 2) := by decide +kernel
theorem dL_below_3 : decode cL_below 3 = .ok (.iand, 1) := by decide +kernel
theorem dL_below_4 : decode cL_below 4 = .ok (.iload_n 1, 1) := by decide +kernel
theorem dL_below_5 : decode cL_below 5 = .ok (.irem, 1) := by decide +kernel
theorem dL_below_6 : decode cL_below 6 = .ok (.ireturn, 1) := by decide +kernel
theorem dL_cell_0 : decode cL_cell 0 = .ok (.iload_n 1, 1) := by decide +kernel
theorem dL_cell_1 : decode cL_cell 1 = .ok (.aload_n 0, 1) := by decide +kernel
theorem dL_cell_2 : decode cL_cell 2 = .ok (.arraylength, 1) := by decide +kernel
theorem dL_cell_3 : decode cL_cell 3 = .ok (.if_icmp .ge 9, 3) := by decide +kernel
theorem dL_cell_6 : decode cL_cell 6 = .ok (.aload_n 0, 1) := by decide +kernel
theorem dL_cell_7 : decode cL_cell 7 = .ok (.iload_n 1, 1) := by decide +kernel
theorem dL_cell_8 : decode cL_cell 8 = .ok (.iaload, 1) := by decide +kernel
theorem dL_cell_9 : decode cL_cell 9 = .ok (.goto 9, 3) := by decide +kernel
theorem dL_cell_12 : decode cL_cell 12 = .ok (.ldc 8, 2) := by decide +kernel
theorem dL_cell_14 : decode cL_cell 14 = .ok (.iload_n 1, 1) := by decide +kernel
theorem dL_cell_15 : decode cL_cell 15 = .ok (.iconst 3, 1) := by decide +kernel
theorem dL_cell_16 : decode cL_cell 16 = .ok (.iadd, 1) := by decide +kernel
theorem dL_cell_17 : decode cL_cell 17 = .ok (.imul, 1) := by decide +kernel
theorem dL_cell_18 : decode cL_cell 18 = .ok (.ireturn, 1) := by decide +kernel
theorem dL_makers_0 : decode cL_makers 0 = .ok (.new 9, 3) := by decide +kernel
theorem dL_makers_3 : decode cL_makers 3 = .ok (.dup, 1) := by decide +kernel
theorem dL_makers_4 : decode cL_makers 4 = .ok (.invokespecial 11, 3) := by decide +kernel
theorem dL_makers_7 : decode cL_makers 7 = .ok (.astore_n 1, 1) := by decide +kernel
theorem dL_makers_8 : decode cL_makers 8 = .ok (.iconst 0, 1) := by decide +kernel
theorem dL_makers_9 : decode cL_makers 9 = .ok (.istore_n 2, 1) := by decide +kernel
theorem dL_makers_10 : decode cL_makers 10 = .ok (.iload_n 2, 1) := by decide +kernel
theorem dL_makers_11 : decode cL_makers 11 = .ok (.iconst 3, 1) := by decide +kernel
theorem dL_makers_12 : decode cL_makers 12 = .ok (.if_icmp .ge 77, 3) := by decide +kernel
theorem dL_makers_15 : decode cL_makers 15 = .ok (.aload_n 0, 1) := by decide +kernel
theorem dL_makers_16 : decode cL_makers 16 = .ok (.iload_n 2, 1) := by decide +kernel
theorem dL_makers_17 : decode cL_makers 17 = .ok (.invokestatic 12, 3) := by decide +kernel
theorem dL_makers_20 : decode cL_makers 20 = .ok (.istore_n 3, 1) := by decide +kernel
theorem dL_makers_21 : decode cL_makers 21 = .ok (.aload_n 1, 1) := by decide +kernel
theorem dL_makers_22 : decode cL_makers 22 = .ok (.iconst 1, 1) := by decide +kernel
theorem dL_makers_23 : decode cL_makers 23 = .ok (.iload_n 3, 1) := by decide +kernel
theorem dL_makers_24 : decode cL_makers 24 = .ok (.bipush 9, 2) := by decide +kernel
theorem dL_makers_26 : decode cL_makers 26 = .ok (.invokestatic 18, 3) := by decide +kernel
theorem dL_makers_29 : decode cL_makers 29 = .ok (.iadd, 1) := by decide +kernel
theorem dL_makers_30 : decode cL_makers 30 = .ok (.iload_n 3, 1) := by decide +kernel
theorem dL_makers_31 : decode cL_makers 31 = .ok (.iconst 4, 1) := by decide +kernel
theorem dL_makers_32 : decode cL_makers 32 = .ok (.ishr, 1) := by decide +kernel
theorem dL_makers_33 : decode cL_makers 33 = .ok (.iconst 4, 1) := by decide +kernel
theorem dL_makers_34 : decode cL_makers 34 = .ok (.invokestatic 18, 3) := by decide +kernel
theorem dL_makers_37 : decode cL_makers 37 = .ok (.iload_n 3, 1) := by decide +kernel
theorem dL_makers_38 : decode cL_makers 38 = .ok (.bipush 6, 2) := by decide +kernel
theorem dL_makers_40 : decode cL_makers 40 = .ok (.ishr, 1) := by decide +kernel
theorem dL_makers_41 : decode cL_makers 41 = .ok (.iconst 4, 1) := by decide +kernel
theorem dL_makers_42 : decode cL_makers 42 = .ok (.invokestatic 18, 3) := by decide +kernel
theorem dL_makers_45 : decode cL_makers 45 = .ok (.invokevirtual 22, 3) := by decide +kernel
theorem dL_makers_48 : decode cL_makers 48 = .ok (.pop, 1) := by decide +kernel
theorem dL_makers_49 : decode cL_makers 49 = .ok (.aload_n 1, 1) := by decide +kernel
theorem dL_makers_50 : decode cL_makers 50 = .ok (.iload_n 2, 1) := by decide +kernel
theorem dL_makers_51 : decode cL_makers 51 = .ok (.iconst 1, 1) := by decide +kernel
theorem dL_makers_52 : decode cL_makers 52 = .ok (.iload_n 3, 1) := by decide +kernel
theorem dL_makers_53 : decode cL_makers 53 = .ok (.bipush 8, 2) := by decide +kernel
theorem dL_makers_55 : decode cL_makers 55 = .ok (.ishr, 1) := by decide +kernel
theorem dL_makers_56 : decode cL_makers 56 = .ok (.bipush 20, 2) := by decide +kernel
theorem dL_makers_58 : decode cL_makers 58 = .ok (.invokestatic 18, 3) := by decide +kernel
theorem dL_makers_61 : decode cL_makers 61 = .ok (.iadd, 1) := by decide +kernel
theorem dL_makers_62 : decode cL_makers 62 = .ok (.invokevirtual 26, 3) := by decide +kernel
theorem dL_makers_65 : decode cL_makers 65 = .ok (.pop, 1) := by decide +kernel
theorem dL_makers_66 : decode cL_makers 66 = .ok (.aload_n 1, 1) := by decide +kernel
theorem dL_makers_67 : decode cL_makers 67 = .ok (.iload_n 2, 1) := by decide +kernel
theorem dL_makers_68 : decode cL_makers 68 = .ok (.iconst 1, 1) := by decide +kernel
theorem dL_makers_69 : decode cL_makers 69 = .ok (.iload_n 3, 1) := by decide +kernel
theorem dL_makers_70 : decode cL_makers 70 = .ok (.bipush 13, 2) := by decide +kernel
theorem dL_makers_72 : decode cL_makers 72 = .ok (.ishr, 1) := by decide +kernel
theorem dL_makers_73 : decode cL_makers 73 = .ok (.bipush 20, 2) := by decide +kernel
theorem dL_makers_75 : decode cL_makers 75 = .ok (.invokestatic 18, 3) := by decide +kernel
theorem dL_makers_78 : decode cL_makers 78 = .ok (.iadd, 1) := by decide +kernel
theorem dL_makers_79 : decode cL_makers 79 = .ok (.invokevirtual 29, 3) := by decide +kernel
theorem dL_makers_82 : decode cL_makers 82 = .ok (.pop, 1) := by decide +kernel
theorem dL_makers_83 : decode cL_makers 83 = .ok (.iinc 2 1, 3) := by decide +kernel
theorem dL_makers_86 : decode cL_makers 86 = .ok (.goto (-76), 3) := by decide +kernel
theorem dL_makers_89 : decode cL_makers 89 = .ok (.iconst 0, 1) := by decide +kernel
theorem dL_makers_90 : decode cL_makers 90 = .ok (.istore_n 2, 1) := by decide +kernel
theorem dL_makers_91 : decode cL_makers 91 = .ok (.iload_n 2, 1) := by decide +kernel
theorem dL_makers_92 : decode cL_makers 92 = .ok (.iconst 4, 1) := by decide +kernel
theorem dL_makers_93 : decode cL_makers 93 = .ok (.if_icmp .ge 30, 3) := by decide +kernel
theorem dL_makers_96 : decode cL_makers 96 = .ok (.aload_n 1, 1) := by decide +kernel
theorem dL_makers_97 : decode cL_makers 97 = .ok (.iload_n 2, 1) := by decide +kernel
theorem dL_makers_98 : decode cL_makers 98 = .ok (.aload_n 0, 1) := by decide +kernel
theorem dL_makers_99 : decode cL_makers 99 = .ok (.iconst 3, 1) := by decide +kernel
theorem dL_makers_100 : decode cL_makers 100 = .ok (.invokestatic 12, 3) := by decide +kernel
theorem dL_makers_103 : decode cL_makers 103 = .ok (.bipush 6, 2) := by decide +kernel
theorem dL_makers_105 : decode cL_makers 105 = .ok (.iload_n 2, 1) := by decide +kernel
theorem dL_makers_106 : decode cL_makers 106 = .ok (.imul, 1) := by decide +kernel
theorem dL_makers_107 : decode cL_makers 107 = .ok (.ishr, 1) := by decide +kernel
theorem dL_makers_108 : decode cL_makers 108 = .ok (.bipush 61, 2) := by decide +kernel
theorem dL_makers_110 : decode cL_makers 110 = .ok (.invokestatic 18, 3) := by decide +kernel
theorem dL_makers_113 : decode cL_makers 113 = .ok (.invokevirtual 32, 3) := by decide +kernel
theorem dL_makers_116 : decode cL_makers 116 = .ok (.pop, 1) := by decide +kernel
theorem dL_makers_117 : decode cL_makers 117 = .ok (.iinc 2 1, 3) := by decide +kernel
theorem dL_makers_120 : decode cL_makers 120 = .ok (.goto (-29), 3) := by decide +kernel
theorem dL_makers_123 : decode cL_makers 123 = .ok (.aload_n 1, 1) := by decide +kernel
theorem dL_makers_124 : decode cL_makers 124 = .ok (.areturn, 1) := by decide +kernel
theorem dL_law_0 : decode cL_law 0 = .ok (.aload_n 0, 1) := by decide +kernel
theorem dL_law_1 : decode cL_law 1 = .ok (.invokestatic 35, 3) := by decide +kernel
theorem dL_law_4 : decode cL_law 4 = .ok (.astore_n 1, 1) := by decide +kernel
theorem dL_law_5 : decode cL_law 5 = .ok (.iconst 3, 1) := by decide +kernel
theorem dL_law_6 : decode cL_law 6 = .ok (.newarray .int, 2) := by decide +kernel
theorem dL_law_8 : decode cL_law 8 = .ok (.dup, 1) := by decide +kernel
theorem dL_law_9 : decode cL_law 9 = .ok (.iconst 0, 1) := by decide +kernel
theorem dL_law_10 : decode cL_law 10 = .ok (.aload_n 1, 1) := by decide +kernel
theorem dL_law_11 : decode cL_law 11 = .ok (.iconst 0, 1) := by decide +kernel
theorem dL_law_12 : decode cL_law 12 = .ok (.iconst 3, 1) := by decide +kernel
theorem dL_law_13 : decode cL_law 13 = .ok (.invokevirtual 39, 3) := by decide +kernel
theorem dL_law_16 : decode cL_law 16 = .ok (.iastore, 1) := by decide +kernel
theorem dL_law_17 : decode cL_law 17 = .ok (.dup, 1) := by decide +kernel
theorem dL_law_18 : decode cL_law 18 = .ok (.iconst 1, 1) := by decide +kernel
theorem dL_law_19 : decode cL_law 19 = .ok (.aload_n 1, 1) := by decide +kernel
theorem dL_law_20 : decode cL_law 20 = .ok (.iconst 1, 1) := by decide +kernel
theorem dL_law_21 : decode cL_law 21 = .ok (.iconst 3, 1) := by decide +kernel
theorem dL_law_22 : decode cL_law 22 = .ok (.invokevirtual 39, 3) := by decide +kernel
theorem dL_law_25 : decode cL_law 25 = .ok (.iastore, 1) := by decide +kernel
theorem dL_law_26 : decode cL_law 26 = .ok (.dup, 1) := by decide +kernel
theorem dL_law_27 : decode cL_law 27 = .ok (.iconst 2, 1) := by decide +kernel
theorem dL_law_28 : decode cL_law 28 = .ok (.aload_n 1, 1) := by decide +kernel
theorem dL_law_29 : decode cL_law 29 = .ok (.iconst 2, 1) := by decide +kernel
theorem dL_law_30 : decode cL_law 30 = .ok (.iconst 3, 1) := by decide +kernel
theorem dL_law_31 : decode cL_law 31 = .ok (.invokevirtual 39, 3) := by decide +kernel
theorem dL_law_34 : decode cL_law 34 = .ok (.iastore, 1) := by decide +kernel
theorem dL_law_35 : decode cL_law 35 = .ok (.astore_n 2, 1) := by decide +kernel
theorem dL_law_36 : decode cL_law 36 = .ok (.iconst 0, 1) := by decide +kernel
theorem dL_law_37 : decode cL_law 37 = .ok (.istore_n 3, 1) := by decide +kernel
theorem dL_law_38 : decode cL_law 38 = .ok (.iload_n 3, 1) := by decide +kernel
theorem dL_law_39 : decode cL_law 39 = .ok (.bipush 14, 2) := by decide +kernel
theorem dL_law_41 : decode cL_law 41 = .ok (.if_icmp .ge 552, 3) := by decide +kernel
theorem dL_law_44 : decode cL_law 44 = .ok (.aload_n 0, 1) := by decide +kernel
theorem dL_law_45 : decode cL_law 45 = .ok (.iconst 4, 1) := by decide +kernel
theorem dL_law_46 : decode cL_law 46 = .ok (.iload_n 3, 1) := by decide +kernel
theorem dL_law_47 : decode cL_law 47 = .ok (.iadd, 1) := by decide +kernel
theorem dL_law_48 : decode cL_law 48 = .ok (.invokestatic 12, 3) := by decide +kernel
theorem dL_law_51 : decode cL_law 51 = .ok (.iconst 2, 1) := by decide +kernel
theorem dL_law_52 : decode cL_law 52 = .ok (.ishr, 1) := by decide +kernel
theorem dL_law_53 : decode cL_law 53 = .ok (.istore 4, 2) := by decide +kernel
theorem dL_law_55 : decode cL_law 55 = .ok (.iload 4, 2) := by decide +kernel
theorem dL_law_57 : decode cL_law 57 = .ok (.iconst 3, 1) := by decide +kernel
theorem dL_law_58 : decode cL_law 58 = .ok (.invokestatic 18, 3) := by decide +kernel
theorem dL_law_61 : decode cL_law 61 = .ok (.istore 5, 2) := by decide +kernel
theorem dL_law_63 : decode cL_law 63 = .ok (.aload_n 1, 1) := by decide +kernel
theorem dL_law_64 : decode cL_law 64 = .ok (.invokevirtual 42, 3) := by decide +kernel
theorem dL_law_67 : decode cL_law 67 = .ok (.lstore 6, 2) := by decide +kernel
theorem dL_law_69 : decode cL_law 69 = .ok (.aload_n 1, 1) := by decide +kernel
theorem dL_law_70 : decode cL_law 70 = .ok (.iconst 5, 1) := by decide +kernel
theorem dL_law_71 : decode cL_law 71 = .ok (.iconst 4, 1) := by decide +kernel
theorem dL_law_72 : decode cL_law 72 = .ok (.invokevirtual 46, 3) := by decide +kernel
theorem dL_law_75 : decode cL_law 75 = .ok (.istore 8, 2) := by decide +kernel
theorem dL_law_77 : decode cL_law 77 = .ok (.aload_n 1, 1) := by decide +kernel
theorem dL_law_78 : decode cL_law 78 = .ok (.iload 5, 2) := by decide +kernel
theorem dL_law_80 : decode cL_law 80 = .ok (.invokevirtual 49, 3) := by decide +kernel
theorem dL_law_83 : decode cL_law 83 = .ok (.istore 9, 2) := by decide +kernel
theorem dL_law_85 : decode cL_law 85 = .ok (.aload_n 1, 1) := by decide +kernel
theorem dL_law_86 : decode cL_law 86 = .ok (.iload 5, 2) := by decide +kernel
theorem dL_law_88 : decode cL_law 88 = .ok (.iconst 3, 1) := by decide +kernel
theorem dL_law_89 : decode cL_law 89 = .ok (.invokevirtual 53, 3) := by decide +kernel
theorem dL_law_92 : decode cL_law 92 = .ok (.istore 10, 2) := by decide +kernel
theorem dL_law_94 : decode cL_law 94 = .ok (.aload_n 1, 1) := by decide +kernel
theorem dL_law_95 : decode cL_law 95 = .ok (.invokevirtual 42, 3) := by decide +kernel
theorem dL_law_98 : decode cL_law 98 = .ok (.lload 6, 2) := by decide +kernel
theorem dL_law_100 : decode cL_law 100 = .ok (.lcmp, 1) := by decide +kernel
theorem dL_law_101 : decode cL_law 101 = .ok (.ifCond .ne 27, 3) := by decide +kernel
theorem dL_law_104 : decode cL_law 104 = .ok (.iload 9, 2) := by decide +kernel
theorem dL_law_106 : decode cL_law 106 = .ok (.ifCond .lt 22, 3) := by decide +kernel
theorem dL_law_109 : decode cL_law 109 = .ok (.iload 9, 2) := by decide +kernel
theorem dL_law_111 : decode cL_law 111 = .ok (.sipush 162, 3) := by decide +kernel
theorem dL_law_114 : decode cL_law 114 = .ok (.if_icmp .gt 14, 3) := by decide +kernel
theorem dL_law_117 : decode cL_law 117 = .ok (.iload 10, 2) := by decide +kernel
theorem dL_law_119 : decode cL_law 119 = .ok (.ifCond .lt 9, 3) := by decide +kernel
theorem dL_law_122 : decode cL_law 122 = .ok (.iload 10, 2) := by decide +kernel
theorem dL_law_124 : decode cL_law 124 = .ok (.iconst 3, 1) := by decide +kernel
theorem dL_law_125 : decode cL_law 125 = .ok (.if_icmp .le 5, 3) := by decide +kernel
theorem dL_law_128 : decode cL_law 128 = .ok (.iconst 0, 1) := by decide +kernel
theorem dL_law_129 : decode cL_law 129 = .ok (.ireturn, 1) := by decide +kernel
theorem dL_law_130 : decode cL_law 130 = .ok (.iload 4, 2) := by decide +kernel
theorem dL_law_132 : decode cL_law 132 = .ok (.iconst 2, 1) := by decide +kernel
theorem dL_law_133 : decode cL_law 133 = .ok (.ishr, 1) := by decide +kernel
theorem dL_law_134 : decode cL_law 134 = .ok (.iconst 4, 1) := by decide +kernel
theorem dL_law_135 : decode cL_law 135 = .ok (.invokestatic 18, 3) := by decide +kernel
theorem dL_law_138 : decode cL_law 138 = .ok (.ifCond .ne 37, 3) := by decide +kernel
theorem dL_law_141 : decode cL_law 141 = .ok (.aload_n 1, 1) := by decide +kernel
theorem dL_law_142 : decode cL_law 142 = .ok (.iload 5, 2) := by decide +kernel
theorem dL_law_144 : decode cL_law 144 = .ok (.bipush 8, 2) := by decide +kernel
theorem dL_law_146 : decode cL_law 146 = .ok (.invokevirtual 39, 3) := by decide +kernel
theorem dL_law_149 : decode cL_law 149 = .ok (.bipush 60, 2) := by decide +kernel
theorem dL_law_151 : decode cL_law 151 = .ok (.if_icmp .gt 24, 3) := by decide +kernel
theorem dL_law_154 : decode cL_law 154 = .ok (.aload_n 1, 1) := by decide +kernel
theorem dL_law_155 : decode cL_law 155 = .ok (.iload 5, 2) := by decide +kernel
theorem dL_law_157 : decode cL_law 157 = .ok (.bipush 10, 2) := by decide +kernel
theorem dL_law_159 : decode cL_law 159 = .ok (.invokevirtual 26, 3) := by decide +kernel
theorem dL_law_162 : decode cL_law 162 = .ok (.pop, 1) := by decide +kernel
theorem dL_law_163 : decode cL_law 163 = .ok (.aload_n 2, 1) := by decide +kernel
theorem dL_law_164 : decode cL_law 164 = .ok (.iload 5, 2) := by decide +kernel
theorem dL_law_166 : decode cL_law 166 = .ok (.dup2, 1) := by decide +kernel
theorem dL_law_167 : decode cL_law 167 = .ok (.iaload, 1) := by decide +kernel
theorem dL_law_168 : decode cL_law 168 = .ok (.bipush 10, 2) := by decide +kernel
theorem dL_law_170 : decode cL_law 170 = .ok (.iadd, 1) := by decide +kernel
theorem dL_law_171 : decode cL_law 171 = .ok (.iastore, 1) := by decide +kernel
theorem dL_law_172 : decode cL_law 172 = .ok (.goto 117, 3) := by decide +kernel
theorem dL_law_175 : decode cL_law 175 = .ok (.iload 4, 2) := by decide +kernel
theorem dL_law_177 : decode cL_law 177 = .ok (.iconst 2, 1) := by decide +kernel
theorem dL_law_178 : decode cL_law 178 = .ok (.ishr, 1) := by decide +kernel
theorem dL_law_179 : decode cL_law 179 = .ok (.iconst 4, 1) := by decide +kernel
theorem dL_law_180 : decode cL_law 180 = .ok (.invokestatic 18, 3) := by decide +kernel
theorem dL_law_183 : decode cL_law 183 = .ok (.iconst 1, 1) := by decide +kernel
theorem dL_law_184 : decode cL_law 184 = .ok (.if_icmp .ne 47, 3) := by decide +kernel
theorem dL_law_187 : decode cL_law 187 = .ok (.aload_n 1, 1) := by decide +kernel
theorem dL_law_188 : decode cL_law 188 = .ok (.iload 5, 2) := by decide +kernel
theorem dL_law_190 : decode cL_law 190 = .ok (.bipush 7, 2) := by decide +kernel
theorem dL_law_192 : decode cL_law 192 = .ok (.invokevirtual 39, 3) := by decide +kernel
theorem dL_law_195 : decode cL_law 195 = .ok (.ifCond .le 36, 3) := by decide +kernel
theorem dL_law_198 : decode cL_law 198 = .ok (.aload_n 1, 1) := by decide +kernel
theorem dL_law_199 : decode cL_law 199 = .ok (.iload 5, 2) := by decide +kernel
theorem dL_law_201 : decode cL_law 201 = .ok (.bipush 6, 2) := by decide +kernel
theorem dL_law_203 : decode cL_law 203 = .ok (.invokevirtual 39, 3) := by decide +kernel
theorem dL_law_206 : decode cL_law 206 = .ok (.bipush 96, 2) := by decide +kernel
theorem dL_law_208 : decode cL_law 208 = .ok (.if_icmp .ge 23, 3) := by decide +kernel
theorem dL_law_211 : decode cL_law 211 = .ok (.aload_n 1, 1) := by decide +kernel
theorem dL_law_212 : decode cL_law 212 = .ok (.iload 5, 2) := by decide +kernel
theorem dL_law_214 : decode cL_law 214 = .ok (.iconst 1, 1) := by decide +kernel
theorem dL_law_215 : decode cL_law 215 = .ok (.iload 4, 2) := by decide +kernel
theorem dL_law_217 : decode cL_law 217 = .ok (.iconst 4, 1) := by decide +kernel
theorem dL_law_218 : decode cL_law 218 = .ok (.ishr, 1) := by decide +kernel
theorem dL_law_219 : decode cL_law 219 = .ok (.iconst 4, 1) := by decide +kernel
theorem dL_law_220 : decode cL_law 220 = .ok (.invokestatic 18, 3) := by decide +kernel
theorem dL_law_223 : decode cL_law 223 = .ok (.iadd, 1) := by decide +kernel
theorem dL_law_224 : decode cL_law 224 = .ok (.invokevirtual 29, 3) := by decide +kernel
theorem dL_law_227 : decode cL_law 227 = .ok (.pop, 1) := by decide +kernel
theorem dL_law_228 : decode cL_law 228 = .ok (.goto 61, 3) := by decide +kernel
theorem dL_law_231 : decode cL_law 231 = .ok (.iload 4, 2) := by decide +kernel
theorem dL_law_233 : decode cL_law 233 = .ok (.iconst 2, 1) := by decide +kernel
theorem dL_law_234 : decode cL_law 234 = .ok (.ishr, 1) := by decide +kernel
theorem dL_law_235 : decode cL_law 235 = .ok (.iconst 4, 1) := by decide +kernel
theorem dL_law_236 : decode cL_law 236 = .ok (.invokestatic 18, 3) := by decide +kernel
theorem dL_law_239 : decode cL_law 239 = .ok (.iconst 2, 1) := by decide +kernel
theorem dL_law_240 : decode cL_law 240 = .ok (.if_icmp .ne 29, 3) := by decide +kernel
theorem dL_law_243 : decode cL_law 243 = .ok (.aload_n 1, 1) := by decide +kernel
theorem dL_law_244 : decode cL_law 244 = .ok (.iload 4, 2) := by decide +kernel
theorem dL_law_246 : decode cL_law 246 = .ok (.iconst 4, 1) := by decide +kernel
theorem dL_law_247 : decode cL_law 247 = .ok (.ishr, 1) := by decide +kernel
theorem dL_law_248 : decode cL_law 248 = .ok (.iconst 4, 1) := by decide +kernel
theorem dL_law_249 : decode cL_law 249 = .ok (.invokestatic 18, 3) := by decide +kernel
theorem dL_law_252 : decode cL_law 252 = .ok (.iload 4, 2) := by decide +kernel
theorem dL_law_254 : decode cL_law 254 = .ok (.bipush 6, 2) := by decide +kernel
theorem dL_law_256 : decode cL_law 256 = .ok (.ishr, 1) := by decide +kernel
theorem dL_law_257 : decode cL_law 257 = .ok (.bipush 61, 2) := by decide +kernel
theorem dL_law_259 : decode cL_law 259 = .ok (.invokestatic 18, 3) := by decide +kernel
theorem dL_law_262 : decode cL_law 262 = .ok (.invokevirtual 32, 3) := by decide +kernel
theorem dL_law_265 : decode cL_law 265 = .ok (.pop, 1) := by decide +kernel
theorem dL_law_266 : decode cL_law 266 = .ok (.goto 23, 3) := by decide +kernel
theorem dL_law_269 : decode cL_law 269 = .ok (.aload_n 1, 1) := by decide +kernel
theorem dL_law_270 : decode cL_law 270 = .ok (.iconst 5, 1) := by decide +kernel
theorem dL_law_271 : decode cL_law 271 = .ok (.invokevirtual 56, 3) := by decide +kernel
theorem dL_law_274 : decode cL_law 274 = .ok (.ifCond .lt 13, 3) := by decide +kernel
theorem dL_law_277 : decode cL_law 277 = .ok (.aload_n 1, 1) := by decide +kernel
theorem dL_law_278 : decode cL_law 278 = .ok (.iconst 4, 1) := by decide +kernel
theorem dL_law_279 : decode cL_law 279 = .ok (.invokevirtual 59, 3) := by decide +kernel
theorem dL_law_282 : decode cL_law 282 = .ok (.iload 8, 2) := by decide +kernel
theorem dL_law_284 : decode cL_law 284 = .ok (.if_icmp .eq 5, 3) := by decide +kernel
theorem dL_law_287 : decode cL_law 287 = .ok (.iconst 0, 1) := by decide +kernel
theorem dL_law_288 : decode cL_law 288 = .ok (.ireturn, 1) := by decide +kernel
theorem dL_law_289 : decode cL_law 289 = .ok (.iconst 0, 1) := by decide +kernel
theorem dL_law_290 : decode cL_law 290 = .ok (.istore 11, 2) := by decide +kernel
theorem dL_law_292 : decode cL_law 292 = .ok (.iload 11, 2) := by decide +kernel
theorem dL_law_294 : decode cL_law 294 = .ok (.iconst 3, 1) := by decide +kernel
