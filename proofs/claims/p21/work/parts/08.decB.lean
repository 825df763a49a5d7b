theorem dX1_store_6 : decode cX1_store 6 = .ok (.iadd, 1) := by decide +kernel
theorem dX1_store_7 : decode cX1_store 7 = .ok (.putfield 52, 3) := by decide +kernel
theorem dX1_store_10 : decode cX1_store 10 = .ok (.aload_n 0, 1) := by decide +kernel
theorem dX1_store_11 : decode cX1_store 11 = .ok (.getfield 18, 3) := by decide +kernel
theorem dX1_store_14 : decode cX1_store 14 = .ok (.aload_n 0, 1) := by decide +kernel
theorem dX1_store_15 : decode cX1_store 15 = .ok (.getfield 28, 3) := by decide +kernel
theorem dX1_store_18 : decode cX1_store 18 = .ok (.dup2, 1) := by decide +kernel
theorem dX1_store_19 : decode cX1_store 19 = .ok (.iaload, 1) := by decide +kernel
theorem dX1_store_20 : decode cX1_store 20 = .ok (.iload_n 1, 1) := by decide +kernel
theorem dX1_store_21 : decode cX1_store 21 = .ok (.iadd, 1) := by decide +kernel
theorem dX1_store_22 : decode cX1_store 22 = .ok (.iastore, 1) := by decide +kernel
theorem dX1_store_23 : decode cX1_store 23 = .ok (.aload_n 0, 1) := by decide +kernel
theorem dX1_store_24 : decode cX1_store 24 = .ok (.getfield 22, 3) := by decide +kernel
theorem dX1_store_27 : decode cX1_store 27 = .ok (.aload_n 0, 1) := by decide +kernel
theorem dX1_store_28 : decode cX1_store 28 = .ok (.getfield 28, 3) := by decide +kernel
theorem dX1_store_31 : decode cX1_store 31 = .ok (.dup2, 1) := by decide +kernel
theorem dX1_store_32 : decode cX1_store 32 = .ok (.iaload, 1) := by decide +kernel
theorem dX1_store_33 : decode cX1_store 33 = .ok (.aload_n 0, 1) := by decide +kernel
theorem dX1_store_34 : decode cX1_store 34 = .ok (.getfield 18, 3) := by decide +kernel
theorem dX1_store_37 : decode cX1_store 37 = .ok (.aload_n 0, 1) := by decide +kernel
theorem dX1_store_38 : decode cX1_store 38 = .ok (.getfield 28, 3) := by decide +kernel
theorem dX1_store_41 : decode cX1_store 41 = .ok (.iaload, 1) := by decide +kernel
theorem dX1_store_42 : decode cX1_store 42 = .ok (.sipush 1000, 3) := by decide +kernel
theorem dX1_store_45 : decode cX1_store 45 = .ok (.idiv, 1) := by decide +kernel
theorem dX1_store_46 : decode cX1_store 46 = .ok (.iadd, 1) := by decide +kernel
theorem dX1_store_47 : decode cX1_store 47 = .ok (.iastore, 1) := by decide +kernel
theorem dX1_store_48 : decode cX1_store 48 = .ok (.aload_n 0, 1) := by decide +kernel
theorem dX1_store_49 : decode cX1_store 49 = .ok (.getfield 18, 3) := by decide +kernel
theorem dX1_store_52 : decode cX1_store 52 = .ok (.aload_n 0, 1) := by decide +kernel
theorem dX1_store_53 : decode cX1_store 53 = .ok (.getfield 28, 3) := by decide +kernel
theorem dX1_store_56 : decode cX1_store 56 = .ok (.dup2, 1) := by decide +kernel
theorem dX1_store_57 : decode cX1_store 57 = .ok (.iaload, 1) := by decide +kernel
theorem dX1_store_58 : decode cX1_store 58 = .ok (.sipush 1000, 3) := by decide +kernel
theorem dX1_store_61 : decode cX1_store 61 = .ok (.irem, 1) := by decide +kernel
theorem dX1_store_62 : decode cX1_store 62 = .ok (.iastore, 1) := by decide +kernel
theorem dX1_store_63 : decode cX1_store 63 = .ok (.return_, 1) := by decide +kernel
theorem dX1_number_0 : decode cX1_number 0 = .ok (.iload_n 1, 1) := by decide +kernel
theorem dX1_number_1 : decode cX1_number 1 = .ok (.tableswitch 114 0 10 #[59, 64, 69, 74, 79, 84, 89, 94, 99, 104, 109], 59) := by decide +kernel
theorem dX1_number_60 : decode cX1_number 60 = .ok (.aload_n 0, 1) := by decide +kernel
theorem dX1_number_61 : decode cX1_number 61 = .ok (.getfield 25, 3) := by decide +kernel
theorem dX1_number_64 : decode cX1_number 64 = .ok (.ireturn, 1) := by decide +kernel
theorem dX1_number_65 : decode cX1_number 65 = .ok (.aload_n 0, 1) := by decide +kernel
theorem dX1_number_66 : decode cX1_number 66 = .ok (.getfield 28, 3) := by decide +kernel
theorem dX1_number_69 : decode cX1_number 69 = .ok (.ireturn, 1) := by decide +kernel
theorem dX1_number_70 : decode cX1_number 70 = .ok (.aload_n 0, 1) := by decide +kernel
theorem dX1_number_71 : decode cX1_number 71 = .ok (.getfield 31, 3) := by decide +kernel
theorem dX1_number_74 : decode cX1_number 74 = .ok (.ireturn, 1) := by decide +kernel
theorem dX1_number_75 : decode cX1_number 75 = .ok (.aload_n 0, 1) := by decide +kernel
theorem dX1_number_76 : decode cX1_number 76 = .ok (.getfield 34, 3) := by decide +kernel
theorem dX1_number_79 : decode cX1_number 79 = .ok (.ireturn, 1) := by decide +kernel
theorem dX1_number_80 : decode cX1_number 80 = .ok (.aload_n 0, 1) := by decide +kernel
theorem dX1_number_81 : decode cX1_number 81 = .ok (.getfield 37, 3) := by decide +kernel
theorem dX1_number_84 : decode cX1_number 84 = .ok (.ireturn, 1) := by decide +kernel
theorem dX1_number_85 : decode cX1_number 85 = .ok (.aload_n 0, 1) := by decide +kernel
theorem dX1_number_86 : decode cX1_number 86 = .ok (.getfield 40, 3) := by decide +kernel
theorem dX1_number_89 : decode cX1_number 89 = .ok (.ireturn, 1) := by decide +kernel
theorem dX1_number_90 : decode cX1_number 90 = .ok (.aload_n 0, 1) := by decide +kernel
theorem dX1_number_91 : decode cX1_number 91 = .ok (.getfield 9, 3) := by decide +kernel
theorem dX1_number_94 : decode cX1_number 94 = .ok (.ireturn, 1) := by decide +kernel
theorem dX1_number_95 : decode cX1_number 95 = .ok (.aload_n 0, 1) := by decide +kernel
theorem dX1_number_96 : decode cX1_number 96 = .ok (.getfield 15, 3) := by decide +kernel
theorem dX1_number_99 : decode cX1_number 99 = .ok (.ireturn, 1) := by decide +kernel
theorem dX1_number_100 : decode cX1_number 100 = .ok (.aload_n 0, 1) := by decide +kernel
theorem dX1_number_101 : decode cX1_number 101 = .ok (.getfield 43, 3) := by decide +kernel
theorem dX1_number_104 : decode cX1_number 104 = .ok (.ireturn, 1) := by decide +kernel
theorem dX1_number_105 : decode cX1_number 105 = .ok (.aload_n 0, 1) := by decide +kernel
theorem dX1_number_106 : decode cX1_number 106 = .ok (.getfield 46, 3) := by decide +kernel
theorem dX1_number_109 : decode cX1_number 109 = .ok (.ireturn, 1) := by decide +kernel
theorem dX1_number_110 : decode cX1_number 110 = .ok (.aload_n 0, 1) := by decide +kernel
theorem dX1_number_111 : decode cX1_number 111 = .ok (.getfield 49, 3) := by decide +kernel
theorem dX1_number_114 : decode cX1_number 114 = .ok (.ireturn, 1) := by decide +kernel
theorem dX1_number_115 : decode cX1_number 115 = .ok (.aload_n 0, 1) := by decide +kernel
theorem dX1_number_116 : decode cX1_number 116 = .ok (.getfield 52, 3) := by decide +kernel
theorem dX1_number_119 : decode cX1_number 119 = .ok (.ireturn, 1) := by decide +kernel
theorem dX1_shareOfTotal_0 : decode cX1_shareOfTotal 0 = .ok (.iload_n 1, 1) := by decide +kernel
theorem dX1_shareOfTotal_1 : decode cX1_shareOfTotal 1 = .ok (.tableswitch 97 2 9 #[47, 61, 66, 74, 97, 82, 87, 92], 47) := by decide +kernel
theorem dX1_shareOfTotal_48 : decode cX1_shareOfTotal 48 = .ok (.aload_n 0, 1) := by decide +kernel
theorem dX1_shareOfTotal_49 : decode cX1_shareOfTotal 49 = .ok (.getfield 40, 3) := by decide +kernel
theorem dX1_shareOfTotal_52 : decode cX1_shareOfTotal 52 = .ok (.iconst 4, 1) := by decide +kernel
theorem dX1_shareOfTotal_53 : decode cX1_shareOfTotal 53 = .ok (.if_icmp .lt 7, 3) := by decide +kernel
theorem dX1_shareOfTotal_56 : decode cX1_shareOfTotal 56 = .ok (.iconst 1, 1) := by decide +kernel
theorem dX1_shareOfTotal_57 : decode cX1_shareOfTotal 57 = .ok (.goto 4, 3) := by decide +kernel
theorem dX1_shareOfTotal_60 : decode cX1_shareOfTotal 60 = .ok (.iconst 0, 1) := by decide +kernel
theorem dX1_shareOfTotal_61 : decode cX1_shareOfTotal 61 = .ok (.ireturn, 1) := by decide +kernel
theorem dX1_shareOfTotal_62 : decode cX1_shareOfTotal 62 = .ok (.aload_n 0, 1) := by decide +kernel
theorem dX1_shareOfTotal_63 : decode cX1_shareOfTotal 63 = .ok (.getfield 34, 3) := by decide +kernel
theorem dX1_shareOfTotal_66 : decode cX1_shareOfTotal 66 = .ok (.ireturn, 1) := by decide +kernel
theorem dX1_shareOfTotal_67 : decode cX1_shareOfTotal 67 = .ok (.aload_n 0, 1) := by decide +kernel
theorem dX1_shareOfTotal_68 : decode cX1_shareOfTotal 68 = .ok (.getfield 18, 3) := by decide +kernel
theorem dX1_shareOfTotal_71 : decode cX1_shareOfTotal 71 = .ok (.invokestatic 85, 3) := by decide +kernel
theorem dX1_shareOfTotal_74 : decode cX1_shareOfTotal 74 = .ok (.ireturn, 1) := by decide +kernel
theorem dX1_shareOfTotal_75 : decode cX1_shareOfTotal 75 = .ok (.aload_n 0, 1) := by decide +kernel
theorem dX1_shareOfTotal_76 : decode cX1_shareOfTotal 76 = .ok (.getfield 22, 3) := by decide +kernel
theorem dX1_shareOfTotal_79 : decode cX1_shareOfTotal 79 = .ok (.invokestatic 85, 3) := by decide +kernel
theorem dX1_shareOfTotal_82 : decode cX1_shareOfTotal 82 = .ok (.ireturn, 1) := by decide +kernel
theorem dX1_shareOfTotal_83 : decode cX1_shareOfTotal 83 = .ok (.aload_n 0, 1) := by decide +kernel
theorem dX1_shareOfTotal_84 : decode cX1_shareOfTotal 84 = .ok (.getfield 15, 3) := by decide +kernel
theorem dX1_shareOfTotal_87 : decode cX1_shareOfTotal 87 = .ok (.ireturn, 1) := by decide +kernel
theorem dX1_shareOfTotal_88 : decode cX1_shareOfTotal 88 = .ok (.aload_n 0, 1) := by decide +kernel
theorem dX1_shareOfTotal_89 : decode cX1_shareOfTotal 89 = .ok (.getfield 43, 3) := by decide +kernel
theorem dX1_shareOfTotal_92 : decode cX1_shareOfTotal 92 = .ok (.ireturn, 1) := by decide +kernel
theorem dX1_shareOfTotal_93 : decode cX1_shareOfTotal 93 = .ok (.aload_n 0, 1) := by decide +kernel
theorem dX1_shareOfTotal_94 : decode cX1_shareOfTotal 94 = .ok (.getfield 46, 3) := by decide +kernel
theorem dX1_shareOfTotal_97 : decode cX1_shareOfTotal 97 = .ok (.ireturn, 1) := by decide +kernel
theorem dX1_shareOfTotal_98 : decode cX1_shareOfTotal 98 = .ok (.aload_n 0, 1) := by decide +kernel
theorem dX1_shareOfTotal_99 : decode cX1_shareOfTotal 99 = .ok (.getfield 49, 3) := by decide +kernel
theorem dX1_shareOfTotal_102 : decode cX1_shareOfTotal 102 = .ok (.ireturn, 1) := by decide +kernel
theorem dX1_sumOf_0 : decode cX1_sumOf 0 = .ok (.iconst 0, 1) := by decide +kernel
theorem dX1_sumOf_1 : decode cX1_sumOf 1 = .ok (.istore_n 1, 1) := by decide +kernel
theorem dX1_sumOf_2 : decode cX1_sumOf 2 = .ok (.aload_n 0, 1) := by decide +kernel
theorem dX1_sumOf_3 : decode cX1_sumOf 3 = .ok (.astore_n 2, 1) := by decide +kernel
theorem dX1_sumOf_4 : decode cX1_sumOf 4 = .ok (.aload_n 2, 1) := by decide +kernel
theorem dX1_sumOf_5 : decode cX1_sumOf 5 = .ok (.arraylength, 1) := by decide +kernel
theorem dX1_sumOf_6 : decode cX1_sumOf 6 = .ok (.istore_n 3, 1) := by decide +kernel
theorem dX1_sumOf_7 : decode cX1_sumOf 7 = .ok (.iconst 0, 1) := by decide +kernel
theorem dX1_sumOf_8 : decode cX1_sumOf 8 = .ok (.istore 4, 2) := by decide +kernel
theorem dX1_sumOf_10 : decode cX1_sumOf 10 = .ok (.iload 4, 2) := by decide +kernel
theorem dX1_sumOf_12 : decode cX1_sumOf 12 = .ok (.iload_n 3, 1) := by decide +kernel
theorem dX1_sumOf_13 : decode cX1_sumOf 13 = .ok (.if_icmp .ge 20, 3) := by decide +kernel
theorem dX1_sumOf_16 : decode cX1_sumOf 16 = .ok (.aload_n 2, 1) := by decide +kernel
theorem dX1_sumOf_17 : decode cX1_sumOf 17 = .ok (.iload 4, 2) := by decide +kernel
theorem dX1_sumOf_19 : decode cX1_sumOf 19 = .ok (.iaload, 1) := by decide +kernel
theorem dX1_sumOf_20 : decode cX1_sumOf 20 = .ok (.istore 5, 2) := by decide +kernel
theorem dX1_sumOf_22 : decode cX1_sumOf 22 = .ok (.iload_n 1, 1) := by decide +kernel
theorem dX1_sumOf_23 : decode cX1_sumOf 23 = .ok (.iload 5, 2) := by decide +kernel
theorem dX1_sumOf_25 : decode cX1_sumOf 25 = .ok (.iadd, 1) := by decide +kernel
theorem dX1_sumOf_26 : decode cX1_sumOf 26 = .ok (.istore_n 1, 1) := by decide +kernel
theorem dX1_sumOf_27 : decode cX1_sumOf 27 = .ok (.iinc 4 1, 3) := by decide +kernel
theorem dX1_sumOf_30 : decode cX1_sumOf 30 = .ok (.goto (-20), 3) := by decide +kernel
theorem dX1_sumOf_33 : decode cX1_sumOf 33 = .ok (.iload_n 1, 1) := by decide +kernel
theorem dX1_sumOf_34 : decode cX1_sumOf 34 = .ok (.ireturn, 1) := by decide +kernel
theorem dX1_addToDigest_0 : decode cX1_addToDigest 0 = .ok (.lload_n 1, 1) := by decide +kernel
theorem dX1_addToDigest_1 : decode cX1_addToDigest 1 = .ok (.lstore_n 3, 1) := by decide +kernel
theorem dX1_addToDigest_2 : decode cX1_addToDigest 2 = .ok (.iconst 0, 1) := by decide +kernel
theorem dX1_addToDigest_3 : decode cX1_addToDigest 3 = .ok (.istore 5, 2) := by decide +kernel
theorem dX1_addToDigest_5 : decode cX1_addToDigest 5 = .ok (.iload 5, 2) := by decide +kernel
theorem dX1_addToDigest_7 : decode cX1_addToDigest 7 = .ok (.bipush 12, 2) := by decide +kernel
theorem dX1_addToDigest_9 : decode cX1_addToDigest 9 = .ok (.if_icmp .ge 23, 3) := by decide +kernel
theorem dX1_addToDigest_12 : decode cX1_addToDigest 12 = .ok (.lload_n 3, 1) := by decide +kernel
theorem dX1_addToDigest_13 : decode cX1_addToDigest 13 = .ok (.ldc2_w 89, 3) := by decide +kernel
theorem dX1_addToDigest_16 : decode cX1_addToDigest 16 = .ok (.lmul, 1) := by decide +kernel
theorem dX1_addToDigest_17 : decode cX1_addToDigest 17 = .ok (.aload_n 0, 1) := by decide +kernel
theorem dX1_addToDigest_18 : decode cX1_addToDigest 18 = .ok (.iload 5, 2) := by decide +kernel
theorem dX1_addToDigest_20 : decode cX1_addToDigest 20 = .ok (.invokevirtual 91, 3) := by decide +kernel
theorem dX1_addToDigest_23 : decode cX1_addToDigest 23 = .ok (.i2l, 1) := by decide +kernel
theorem dX1_addToDigest_24 : decode cX1_addToDigest 24 = .ok (.ladd, 1) := by decide +kernel
theorem dX1_addToDigest_25 : decode cX1_addToDigest 25 = .ok (.lstore_n 3, 1) := by decide +kernel
theorem dX1_addToDigest_26 : decode cX1_addToDigest 26 = .ok (.iinc 5 1, 3) := by decide +kernel
theorem dX1_addToDigest_29 : decode cX1_addToDigest 29 = .ok (.goto (-24), 3) := by decide +kernel
theorem dX1_addToDigest_32 : decode cX1_addToDigest 32 = .ok (.iconst 0, 1) := by decide +kernel
theorem dX1_addToDigest_33 : decode cX1_addToDigest 33 = .ok (.istore 5, 2) := by decide +kernel
theorem dX1_addToDigest_35 : decode cX1_addToDigest 35 = .ok (.iload 5, 2) := by decide +kernel
theorem dX1_addToDigest_37 : decode cX1_addToDigest 37 = .ok (.iconst 4, 1) := by decide +kernel
theorem dX1_addToDigest_38 : decode cX1_addToDigest 38 = .ok (.if_icmp .ge 39, 3) := by decide +kernel
theorem dX1_addToDigest_41 : decode cX1_addToDigest 41 = .ok (.lload_n 3, 1) := by decide +kernel
theorem dX1_addToDigest_42 : decode cX1_addToDigest 42 = .ok (.ldc2_w 89, 3) := by decide +kernel
theorem dX1_addToDigest_45 : decode cX1_addToDigest 45 = .ok (.lmul, 1) := by decide +kernel
theorem dX1_addToDigest_46 : decode cX1_addToDigest 46 = .ok (.aload_n 0, 1) := by decide +kernel
theorem dX1_addToDigest_47 : decode cX1_addToDigest 47 = .ok (.getfield 18, 3) := by decide +kernel
theorem dX1_addToDigest_50 : decode cX1_addToDigest 50 = .ok (.iload 5, 2) := by decide +kernel
theorem dX1_addToDigest_52 : decode cX1_addToDigest 52 = .ok (.iaload, 1) := by decide +kernel
theorem dX1_addToDigest_53 : decode cX1_addToDigest 53 = .ok (.i2l, 1) := by decide +kernel
theorem dX1_addToDigest_54 : decode cX1_addToDigest 54 = .ok (.ladd, 1) := by decide +kernel
theorem dX1_addToDigest_55 : decode cX1_addToDigest 55 = .ok (.lstore_n 3, 1) := by decide +kernel
theorem dX1_addToDigest_56 : decode cX1_addToDigest 56 = .ok (.lload_n 3, 1) := by decide +kernel
theorem dX1_addToDigest_57 : decode cX1_addToDigest 57 = .ok (.ldc2_w 89, 3) := by decide +kernel
theorem dX1_addToDigest_60 : decode cX1_addToDigest 60 = .ok (.lmul, 1) := by decide +kernel
theorem dX1_addToDigest_61 : decode cX1_addToDigest 61 = .ok (.aload_n 0, 1) := by decide +kernel
theorem dX1_addToDigest_62 : decode cX1_addToDigest 62 = .ok (.getfield 22, 3) := by decide +kernel
theorem dX1_addToDigest_65 : decode cX1_addToDigest 65 = .ok (.iload 5, 2) := by decide +kernel
theorem dX1_addToDigest_67 : decode cX1_addToDigest 67 = .ok (.iaload, 1) := by decide +kernel
theorem dX1_addToDigest_68 : decode cX1_addToDigest 68 = .ok (.i2l, 1) := by decide +kernel
theorem dX1_addToDigest_69 : decode cX1_addToDigest 69 = .ok (.ladd, 1) := by decide +kernel
theorem dX1_addToDigest_70 : decode cX1_addToDigest 70 = .ok (.lstore_n 3, 1) := by decide +kernel
theorem dX1_addToDigest_71 : decode cX1_addToDigest 71 = .ok (.iinc 5 1, 3) := by decide +kernel
theorem dX1_addToDigest_74 : decode cX1_addToDigest 74 = .ok (.goto (-39), 3) := by decide +kernel
theorem dX1_addToDigest_77 : decode cX1_addToDigest 77 = .ok (.lload_n 3, 1) := by decide +kernel
theorem dX1_addToDigest_78 : decode cX1_addToDigest 78 = .ok (.lreturn, 1) := by decide +kernel
theorem dX2_init_0 : decode cX2_init 0 = .ok (.aload_n 0, 1) := by decide +kernel
theorem dX2_init_1 : decode cX2_init 1 = .ok (.invokespecial 3, 3) := by decide +kernel
theorem dX2_init_4 : decode cX2_init 4 = .ok (.aload_n 0, 1) := by decide +kernel
theorem dX2_init_5 : decode cX2_init 5 = .ok (.bipush 12, 2) := by decide +kernel
theorem dX2_init_7 : decode cX2_init 7 = .ok (.anewarray 9, 3) := by decide +kernel
theorem dX2_init_10 : decode cX2_init 10 = .ok (.putfield 11, 3) := by decide +kernel
theorem dX2_init_13 : decode cX2_init 13 = .ok (.iconst 0, 1) := by decide +kernel
theorem dX2_init_14 : decode cX2_init 14 = .ok (.istore_n 1, 1) := by decide +kernel
theorem dX2_init_15 : decode cX2_init 15 = .ok (.iload_n 1, 1) := by decide +kernel
theorem dX2_init_16 : decode cX2_init 16 = .ok (.bipush 12, 2) := by decide +kernel
theorem dX2_init_18 : decode cX2_init 18 = .ok (.if_icmp .ge 22, 3) := by decide +kernel
theorem dX2_init_21 : decode cX2_init 21 = .ok (.aload_n 0, 1) := by decide +kernel
theorem dX2_init_22 : decode cX2_init 22 = .ok (.getfield 11, 3) := by decide +kernel
theorem dX2_init_25 : decode cX2_init 25 = .ok (.iload_n 1, 1) := by decide +kernel
theorem dX2_init_26 : decode cX2_init 26 = .ok (.new 9, 3) := by decide +kernel
theorem dX2_init_29 : decode cX2_init 29 = .ok (.dup, 1) := by decide +kernel
theorem dX2_init_30 : decode cX2_init 30 = .ok (.invokespecial 17, 3) := by decide +kernel
theorem dX2_init_33 : decode cX2_init 33 = .ok (.aastore, 1) := by decide +kernel
theorem dX2_init_34 : decode cX2_init 34 = .ok (.iinc 1 1, 3) := by decide +kernel
theorem dX2_init_37 : decode cX2_init 37 = .ok (.goto (-22), 3) := by decide +kernel
theorem dX2_init_40 : decode cX2_init 40 = .ok (.aload_n 0, 1) := by decide +kernel
theorem dX2_init_41 : decode cX2_init 41 = .ok (.iconst 4, 1) := by decide +kernel
theorem dX2_init_42 : decode cX2_init 42 = .ok (.anewarray 18, 3) := by decide +kernel
theorem dX2_init_45 : decode cX2_init 45 = .ok (.putfield 20, 3) := by decide +kernel
theorem dX2_init_48 : decode cX2_init 48 = .ok (.iconst 0, 1) := by decide +kernel
theorem dX2_init_49 : decode cX2_init 49 = .ok (.istore_n 1, 1) := by decide +kernel
theorem dX2_init_50 : decode cX2_init 50 = .ok (.iload_n 1, 1) := by decide +kernel
theorem dX2_init_51 : decode cX2_init 51 = .ok (.iconst 4, 1) := by decide +kernel
theorem dX2_init_52 : decode cX2_init 52 = .ok (.if_icmp .ge 22, 3) := by decide +kernel
theorem dX2_init_55 : decode cX2_init 55 = .ok (.aload_n 0, 1) := by decide +kernel
theorem dX2_init_56 : decode cX2_init 56 = .ok (.getfield 20, 3) := by decide +kernel
theorem dX2_init_59 : decode cX2_init 59 = .ok (.iload_n 1, 1) := by decide +kernel
theorem dX2_init_60 : decode cX2_init 60 = .ok (.new 18, 3) := by decide +kernel
theorem dX2_init_63 : decode cX2_init 63 = .ok (.dup, 1) := by decide +kernel
theorem dX2_init_64 : decode cX2_init 64 = .ok (.invokespecial 24, 3) := by decide +kernel
theorem dX2_init_67 : decode cX2_init 67 = .ok (.aastore, 1) := by decide +kernel
theorem dX2_init_68 : decode cX2_init 68 = .ok (.iinc 1 1, 3) := by decide +kernel
theorem dX2_init_71 : decode cX2_init 71 = .ok (.goto (-21), 3) := by decide +kernel
theorem dX2_init_74 : decode cX2_init 74 = .ok (.return_, 1) := by decide +kernel
theorem dX2_copyFrom_0 : decode cX2_copyFrom 0 = .ok (.aload_n 0, 1) := by decide +kernel
theorem dX2_copyFrom_1 : decode cX2_copyFrom 1 = .ok (.aload_n 1, 1) := by decide +kernel
theorem dX2_copyFrom_2 : decode cX2_copyFrom 2 = .ok (.getfield 25, 3) := by decide +kernel
theorem dX2_copyFrom_5 : decode cX2_copyFrom 5 = .ok (.putfield 25, 3) := by decide +kernel
theorem dX2_copyFrom_8 : decode cX2_copyFrom 8 = .ok (.aload_n 0, 1) := by decide +kernel
theorem dX2_copyFrom_9 : decode cX2_copyFrom 9 = .ok (.aload_n 1, 1) := by decide +kernel
theorem dX2_copyFrom_10 : decode cX2_copyFrom 10 = .ok (.getfield 29, 3) := by decide +kernel
theorem dX2_copyFrom_13 : decode cX2_copyFrom 13 = .ok (.putfield 29, 3) := by decide +kernel
theorem dX2_copyFrom_16 : decode cX2_copyFrom 16 = .ok (.iconst 0, 1) := by decide +kernel
theorem dX2_copyFrom_17 : decode cX2_copyFrom 17 = .ok (.istore_n 2, 1) := by decide +kernel
theorem dX2_copyFrom_18 : decode cX2_copyFrom 18 = .ok (.iload_n 2, 1) := by decide +kernel
theorem dX2_copyFrom_19 : decode cX2_copyFrom 19 = .ok (.aload_n 0, 1) := by decide +kernel
theorem dX2_copyFrom_20 : decode cX2_copyFrom 20 = .ok (.getfield 29, 3) := by decide +kernel
theorem dX2_copyFrom_23 : decode cX2_copyFrom 23 = .ok (.if_icmp .ge 24, 3) := by decide +kernel
theorem dX2_copyFrom_26 : decode cX2_copyFrom 26 = .ok (.aload_n 0, 1) := by decide +kernel
theorem dX2_copyFrom_27 : decode cX2_copyFrom 27 = .ok (.getfield 11, 3) := by decide +kernel
theorem dX2_copyFrom_30 : decode cX2_copyFrom 30 = .ok (.iload_n 2, 1) := by decide +kernel
theorem dX2_copyFrom_31 : decode cX2_copyFrom 31 = .ok (.aaload, 1) := by decide +kernel
theorem dX2_copyFrom_32 : decode cX2_copyFrom 32 = .ok (.aload_n 1, 1) := by decide +kernel
theorem dX2_copyFrom_33 : decode cX2_copyFrom 33 = .ok (.getfield 11, 3) := by decide +kernel
theorem dX2_copyFrom_36 : decode cX2_copyFrom 36 = .ok (.iload_n 2, 1) := by decide +kernel
theorem dX2_copyFrom_37 : decode cX2_copyFrom 37 = .ok (.aaload, 1) := by decide +kernel
theorem dX2_copyFrom_38 : decode cX2_copyFrom 38 = .ok (.invokevirtual 32, 3) := by decide +kernel
theorem dX2_copyFrom_41 : decode cX2_copyFrom 41 = .ok (.iinc 2 1, 3) := by decide +kernel
theorem dX2_copyFrom_44 : decode cX2_copyFrom 44 = .ok (.goto (-26), 3) := by decide +kernel
theorem dX2_copyFrom_47 : decode cX2_copyFrom 47 = .ok (.iconst 0, 1) := by decide +kernel
theorem dX2_copyFrom_48 : decode cX2_copyFrom 48 = .ok (.istore_n 2, 1) := by decide +kernel
theorem dX2_copyFrom_49 : decode cX2_copyFrom 49 = .ok (.iload_n 2, 1) := by decide +kernel
theorem dX2_copyFrom_50 : decode cX2_copyFrom 50 = .ok (.iconst 4, 1) := by decide +kernel
theorem dX2_copyFrom_51 : decode cX2_copyFrom 51 = .ok (.if_icmp .ge 24, 3) := by decide +kernel
theorem dX2_copyFrom_54 : decode cX2_copyFrom 54 = .ok (.aload_n 0, 1) := by decide +kernel
theorem dX2_copyFrom_55 : decode cX2_copyFrom 55 = .ok (.getfield 20, 3) := by decide +kernel
theorem dX2_copyFrom_58 : decode cX2_copyFrom 58 = .ok (.iload_n 2, 1) := by decide +kernel
theorem dX2_copyFrom_59 : decode cX2_copyFrom 59 = .ok (.aaload, 1) := by decide +kernel
theorem dX2_copyFrom_60 : decode cX2_copyFrom 60 = .ok (.aload_n 1, 1) := by decide +kernel
theorem dX2_copyFrom_61 : decode cX2_copyFrom 61 = .ok (.getfield 20, 3) := by decide +kernel
theorem dX2_copyFrom_64 : decode cX2_copyFrom 64 = .ok (.iload_n 2, 1) := by decide +kernel
theorem dX2_copyFrom_65 : decode cX2_copyFrom 65 = .ok (.aaload, 1) := by decide +kernel
theorem dX2_copyFrom_66 : decode cX2_copyFrom 66 = .ok (.invokevirtual 36, 3) := by decide +kernel
theorem dX2_copyFrom_69 : decode cX2_copyFrom 69 = .ok (.iinc 2 1, 3) := by decide +kernel
theorem dX2_copyFrom_72 : decode cX2_copyFrom 72 = .ok (.goto (-23), 3) := by decide +kernel
theorem dX2_copyFrom_75 : decode cX2_copyFrom 75 = .ok (.return_, 1) := by decide +kernel
theorem dX2_goBy_0 : decode cX2_goBy 0 = .ok (.iconst 0, 1) := by decide +kernel
theorem dX2_goBy_1 : decode cX2_goBy 1 = .ok (.istore_n 2, 1) := by decide +kernel
theorem dX2_goBy_2 : decode cX2_goBy 2 = .ok (.iconst 0, 1) := by decide +kernel
theorem dX2_goBy_3 : decode cX2_goBy 3 = .ok (.istore_n 3, 1) := by decide +kernel
theorem dX2_goBy_4 : decode cX2_goBy 4 = .ok (.iload_n 3, 1) := by decide +kernel
theorem dX2_goBy_5 : decode cX2_goBy 5 = .ok (.iload_n 1, 1) := by decide +kernel
theorem dX2_goBy_6 : decode cX2_goBy 6 = .ok (.if_icmp .ge 16, 3) := by decide +kernel
theorem dX2_goBy_9 : decode cX2_goBy 9 = .ok (.iload_n 2, 1) := by decide +kernel
theorem dX2_goBy_10 : decode cX2_goBy 10 = .ok (.aload_n 0, 1) := by decide +kernel
theorem dX2_goBy_11 : decode cX2_goBy 11 = .ok (.invokevirtual 39, 3) := by decide +kernel
theorem dX2_goBy_14 : decode cX2_goBy 14 = .ok (.iadd, 1) := by decide +kernel
theorem dX2_goBy_15 : decode cX2_goBy 15 = .ok (.istore_n 2, 1) := by decide +kernel
theorem dX2_goBy_16 : decode cX2_goBy 16 = .ok (.iinc 3 1, 3) := by decide +kernel
theorem dX2_goBy_19 : decode cX2_goBy 19 = .ok (.goto (-15), 3) := by decide +kernel
theorem dX2_goBy_22 : decode cX2_goBy 22 = .ok (.iload_n 2, 1) := by decide +kernel
theorem dX2_goBy_23 : decode cX2_goBy 23 = .ok (.ireturn, 1) := by decide +kernel
theorem dX2_goByOne_0 : decode cX2_goByOne 0 = .ok (.iconst 0, 1) := by decide +kernel
theorem dX2_goByOne_1 : decode cX2_goByOne 1 = .ok (.istore_n 1, 1) := by decide +kernel
theorem dX2_goByOne_2 : decode cX2_goByOne 2 = .ok (.iconst 0, 1) := by decide +kernel
theorem dX2_goByOne_3 : decode cX2_goByOne 3 = .ok (.istore_n 2, 1) := by decide +kernel
theorem dX2_goByOne_4 : decode cX2_goByOne 4 = .ok (.iload_n 2, 1) := by decide +kernel
theorem dX2_goByOne_5 : decode cX2_goByOne 5 = .ok (.aload_n 0, 1) := by decide +kernel
theorem dX2_goByOne_6 : decode cX2_goByOne 6 = .ok (.getfield 29, 3) := by decide +kernel
theorem dX2_goByOne_9 : decode cX2_goByOne 9 = .ok (.if_icmp .ge 21, 3) := by decide +kernel
theorem dX2_goByOne_12 : decode cX2_goByOne 12 = .ok (.iload_n 1, 1) := by decide +kernel
theorem dX2_goByOne_13 : decode cX2_goByOne 13 = .ok (.aload_n 0, 1) := by decide +kernel
theorem dX2_goByOne_14 : decode cX2_goByOne 14 = .ok (.getfield 11, 3) := by decide +kernel
theorem dX2_goByOne_17 : decode cX2_goByOne 17 = .ok (.iload_n 2, 1) := by decide +kernel
theorem dX2_goByOne_18 : decode cX2_goByOne 18 = .ok (.aaload, 1) := by decide +kernel
theorem dX2_goByOne_19 : decode cX2_goByOne 19 = .ok (.invokevirtual 43, 3) := by decide +kernel
theorem dX2_goByOne_22 : decode cX2_goByOne 22 = .ok (.iadd, 1) := by decide +kernel
theorem dX2_goByOne_23 : decode cX2_goByOne 23 = .ok (.istore_n 1, 1) := by decide +kernel
theorem dX2_goByOne_24 : decode cX2_goByOne 24 = .ok (.iinc 2 1, 3) := by decide +kernel
theorem dX2_goByOne_27 : decode cX2_goByOne 27 = .ok (.goto (-23), 3) := by decide +kernel
theorem dX2_goByOne_30 : decode cX2_goByOne 30 = .ok (.aload_n 0, 1) := by decide +kernel
theorem dX2_goByOne_31 : decode cX2_goByOne 31 = .ok (.getfield 25, 3) := by decide +kernel
theorem dX2_goByOne_34 : decode cX2_goByOne 34 = .ok (.bipush 48, 2) := by decide +kernel
theorem dX2_goByOne_36 : decode cX2_goByOne 36 = .ok (.irem, 1) := by decide +kernel
theorem dX2_goByOne_37 : decode cX2_goByOne 37 = .ok (.bipush 47, 2) := by decide +kernel
theorem dX2_goByOne_39 : decode cX2_goByOne 39 = .ok (.if_icmp .ne 7, 3) := by decide +kernel
theorem dX2_goByOne_42 : decode cX2_goByOne 42 = .ok (.aload_n 0, 1) := by decide +kernel
theorem dX2_goByOne_43 : decode cX2_goByOne 43 = .ok (.invokevirtual 46, 3) := by decide +kernel
theorem dX2_goByOne_46 : decode cX2_goByOne 46 = .ok (.aload_n 0, 1) := by decide +kernel
theorem dX2_goByOne_47 : decode cX2_goByOne 47 = .ok (.dup, 1) := by decide +kernel
theorem dX2_goByOne_48 : decode cX2_goByOne 48 = .ok (.getfield 25, 3) := by decide +kernel
theorem dX2_goByOne_51 : decode cX2_goByOne 51 = .ok (.iconst 1, 1) := by decide +kernel
theorem dX2_goByOne_52 : decode cX2_goByOne 52 = .ok (.iadd, 1) := by decide +kernel
theorem dX2_goByOne_53 : decode cX2_goByOne 53 = .ok (.putfield 25, 3) := by decide +kernel
theorem dX2_goByOne_56 : decode cX2_goByOne 56 = .ok (.iload_n 1, 1) := by decide +kernel
theorem dX2_goByOne_57 : decode cX2_goByOne 57 = .ok (.ireturn, 1) := by decide +kernel
theorem dX2_reckonWeek_0 : decode cX2_reckonWeek 0 = .ok (.iconst 0, 1) := by decide +kernel
theorem dX2_reckonWeek_1 : decode cX2_reckonWeek 1 = .ok (.istore_n 1, 1) := by decide +kernel
theorem dX2_reckonWeek_2 : decode cX2_reckonWeek 2 = .ok (.iload_n 1, 1) := by decide +kernel
theorem dX2_reckonWeek_3 : decode cX2_reckonWeek 3 = .ok (.aload_n 0, 1) := by decide +kernel
theorem dX2_reckonWeek_4 : decode cX2_reckonWeek 4 = .ok (.getfield 29, 3) := by decide +kernel
theorem dX2_reckonWeek_7 : decode cX2_reckonWeek 7 = .ok (.if_icmp .ge 44, 3) := by decide +kernel
theorem dX2_reckonWeek_10 : decode cX2_reckonWeek 10 = .ok (.aload_n 0, 1) := by decide +kernel
theorem dX2_reckonWeek_11 : decode cX2_reckonWeek 11 = .ok (.getfield 20, 3) := by decide +kernel
theorem dX2_reckonWeek_14 : decode cX2_reckonWeek 14 = .ok (.aload_n 0, 1) := by decide +kernel
theorem dX2_reckonWeek_15 : decode cX2_reckonWeek 15 = .ok (.getfield 11, 3) := by decide +kernel
theorem dX2_reckonWeek_18 : decode cX2_reckonWeek 18 = .ok (.iload_n 1, 1) := by decide +kernel
theorem dX2_reckonWeek_19 : decode cX2_reckonWeek 19 = .ok (.aaload, 1) := by decide +kernel
theorem dX2_reckonWeek_20 : decode cX2_reckonWeek 20 = .ok (.getfield 49, 3) := by decide +kernel
theorem dX2_reckonWeek_23 : decode cX2_reckonWeek 23 = .ok (.aaload, 1) := by decide +kernel
theorem dX2_reckonWeek_24 : decode cX2_reckonWeek 24 = .ok (.astore_n 2, 1) := by decide +kernel
theorem dX2_reckonWeek_25 : decode cX2_reckonWeek 25 = .ok (.aload_n 2, 1) := by decide +kernel
theorem dX2_reckonWeek_26 : decode cX2_reckonWeek 26 = .ok (.aload_n 0, 1) := by decide +kernel
theorem dX2_reckonWeek_27 : decode cX2_reckonWeek 27 = .ok (.getfield 11, 3) := by decide +kernel
theorem dX2_reckonWeek_30 : decode cX2_reckonWeek 30 = .ok (.iload_n 1, 1) := by decide +kernel
theorem dX2_reckonWeek_31 : decode cX2_reckonWeek 31 = .ok (.aaload, 1) := by decide +kernel
theorem dX2_reckonWeek_32 : decode cX2_reckonWeek 32 = .ok (.invokevirtual 52, 3) := by decide +kernel
theorem dX2_reckonWeek_35 : decode cX2_reckonWeek 35 = .ok (.aload_n 2, 1) := by decide +kernel
theorem dX2_reckonWeek_36 : decode cX2_reckonWeek 36 = .ok (.aload_n 0, 1) := by decide +kernel
theorem dX2_reckonWeek_37 : decode cX2_reckonWeek 37 = .ok (.getfield 11, 3) := by decide +kernel
theorem dX2_reckonWeek_40 : decode cX2_reckonWeek 40 = .ok (.iload_n 1, 1) := by decide +kernel
theorem dX2_reckonWeek_41 : decode cX2_reckonWeek 41 = .ok (.aaload, 1) := by decide +kernel
theorem dX2_reckonWeek_42 : decode cX2_reckonWeek 42 = .ok (.invokevirtual 55, 3) := by decide +kernel
theorem dX2_reckonWeek_45 : decode cX2_reckonWeek 45 = .ok (.iinc 1 1, 3) := by decide +kernel
theorem dX2_reckonWeek_48 : decode cX2_reckonWeek 48 = .ok (.goto (-46), 3) := by decide +kernel
theorem dX2_reckonWeek_51 : decode cX2_reckonWeek 51 = .ok (.iconst 0, 1) := by decide +kernel
theorem dX2_reckonWeek_52 : decode cX2_reckonWeek 52 = .ok (.istore_n 1, 1) := by decide +kernel
theorem dX2_reckonWeek_53 : decode cX2_reckonWeek 53 = .ok (.iload_n 1, 1) := by decide +kernel
theorem dX2_reckonWeek_54 : decode cX2_reckonWeek 54 = .ok (.iconst 4, 1) := by decide +kernel
theorem dX2_reckonWeek_55 : decode cX2_reckonWeek 55 = .ok (.if_icmp .ge 18, 3) := by decide +kernel
theorem dX2_reckonWeek_58 : decode cX2_reckonWeek 58 = .ok (.aload_n 0, 1) := by decide +kernel
theorem dX2_reckonWeek_59 : decode cX2_reckonWeek 59 = .ok (.getfield 20, 3) := by decide +kernel
theorem dX2_reckonWeek_62 : decode cX2_reckonWeek 62 = .ok (.iload_n 1, 1) := by decide +kernel
theorem dX2_reckonWeek_63 : decode cX2_reckonWeek 63 = .ok (.aaload, 1) := by decide +kernel
theorem dX2_reckonWeek_64 : decode cX2_reckonWeek 64 = .ok (.invokevirtual 58, 3) := by decide +kernel
theorem dX2_reckonWeek_67 : decode cX2_reckonWeek 67 = .ok (.iinc 1 1, 3) := by decide +kernel
theorem dX2_reckonWeek_70 : decode cX2_reckonWeek 70 = .ok (.goto (-17), 3) := by decide +kernel
theorem dX2_reckonWeek_73 : decode cX2_reckonWeek 73 = .ok (.return_, 1) := by decide +kernel
theorem dX2_total_0 : decode cX2_total 0 = .ok (.iload_n 1, 1) := by decide +kernel
theorem dX2_total_1 : decode cX2_total 1 = .ok (.lookupswitch 50 #[(0, 35), (1, 40), (6, 45)], 35) := by decide +kernel
theorem dX2_total_36 : decode cX2_total 36 = .ok (.aload_n 0, 1) := by decide +kernel
theorem dX2_total_37 : decode cX2_total 37 = .ok (.getfield 25, 3) := by decide +kernel
theorem dX2_total_40 : decode cX2_total 40 = .ok (.ireturn, 1) := by decide +kernel
theorem dX2_total_41 : decode cX2_total 41 = .ok (.aload_n 0, 1) := by decide +kernel
theorem dX2_total_42 : decode cX2_total 42 = .ok (.getfield 29, 3) := by decide +kernel
theorem dX2_total_45 : decode cX2_total 45 = .ok (.ireturn, 1) := by decide +kernel
theorem dX2_total_46 : decode cX2_total 46 = .ok (.aload_n 0, 1) := by decide +kernel
theorem dX2_total_47 : decode cX2_total 47 = .ok (.invokevirtual 61, 3) := by decide +kernel
theorem dX2_total_50 : decode cX2_total 50 = .ok (.ireturn, 1) := by decide +kernel
theorem dX2_total_51 : decode cX2_total 51 = .ok (.aload_n 0, 1) := by decide +kernel
theorem dX2_total_52 : decode cX2_total 52 = .ok (.iload_n 1, 1) := by decide +kernel
theorem dX2_total_53 : decode cX2_total 53 = .ok (.invokevirtual 64, 3) := by decide +kernel
theorem dX2_total_56 : decode cX2_total 56 = .ok (.ireturn, 1) := by decide +kernel
theorem dX2_warehouseBags_0 : decode cX2_warehouseBags 0 = .ok (.iconst 0, 1) := by decide +kernel
theorem dX2_warehouseBags_1 : decode cX2_warehouseBags 1 = .ok (.istore_n 1, 1) := by decide +kernel
theorem dX2_warehouseBags_2 : decode cX2_warehouseBags 2 = .ok (.iconst 0, 1) := by decide +kernel
theorem dX2_warehouseBags_3 : decode cX2_warehouseBags 3 = .ok (.istore_n 2, 1) := by decide +kernel
theorem dX2_warehouseBags_4 : decode cX2_warehouseBags 4 = .ok (.iload_n 2, 1) := by decide +kernel
theorem dX2_warehouseBags_5 : decode cX2_warehouseBags 5 = .ok (.iconst 4, 1) := by decide +kernel
theorem dX2_warehouseBags_6 : decode cX2_warehouseBags 6 = .ok (.if_icmp .ge 21, 3) := by decide +kernel
theorem dX2_warehouseBags_9 : decode cX2_warehouseBags 9 = .ok (.iload_n 1, 1) := by decide +kernel
theorem dX2_warehouseBags_10 : decode cX2_warehouseBags 10 = .ok (.aload_n 0, 1) := by decide +kernel
theorem dX2_warehouseBags_11 : decode cX2_warehouseBags 11 = .ok (.getfield 20, 3) := by decide +kernel
theorem dX2_warehouseBags_14 : decode cX2_warehouseBags 14 = .ok (.iload_n 2, 1) := by decide +kernel
theorem dX2_warehouseBags_15 : decode cX2_warehouseBags 15 = .ok (.aaload, 1) := by decide +kernel
theorem dX2_warehouseBags_16 : decode cX2_warehouseBags 16 = .ok (.getfield 68, 3) := by decide +kernel
theorem dX2_warehouseBags_19 : decode cX2_warehouseBags 19 = .ok (.iadd, 1) := by decide +kernel
theorem dX2_warehouseBags_20 : decode cX2_warehouseBags 20 = .ok (.istore_n 1, 1) := by decide +kernel
theorem dX2_warehouseBags_21 : decode cX2_warehouseBags 21 = .ok (.iinc 2 1, 3) := by decide +kernel
theorem dX2_warehouseBags_24 : decode cX2_warehouseBags 24 = .ok (.goto (-20), 3) := by decide +kernel
theorem dX2_warehouseBags_27 : decode cX2_warehouseBags 27 = .ok (.iload_n 1, 1) := by decide +kernel
theorem dX2_warehouseBags_28 : decode cX2_warehouseBags 28 = .ok (.ireturn, 1) := by decide +kernel
theorem dX2_sumOfShares_0 : decode cX2_sumOfShares 0 = .ok (.iconst 0, 1) := by decide +kernel
theorem dX2_sumOfShares_1 : decode cX2_sumOfShares 1 = .ok (.istore_n 2, 1) := by decide +kernel
theorem dX2_sumOfShares_2 : decode cX2_sumOfShares 2 = .ok (.iconst 0, 1) := by decide +kernel
theorem dX2_sumOfShares_3 : decode cX2_sumOfShares 3 = .ok (.istore_n 3, 1) := by decide +kernel
theorem dX2_sumOfShares_4 : decode cX2_sumOfShares 4 = .ok (.iload_n 3, 1) := by decide +kernel
theorem dX2_sumOfShares_5 : decode cX2_sumOfShares 5 = .ok (.aload_n 0, 1) := by decide +kernel
theorem dX2_sumOfShares_6 : decode cX2_sumOfShares 6 = .ok (.getfield 29, 3) := by decide +kernel
theorem dX2_sumOfShares_9 : decode cX2_sumOfShares 9 = .ok (.if_icmp .ge 22, 3) := by decide +kernel
theorem dX2_sumOfShares_12 : decode cX2_sumOfShares 12 = .ok (.iload_n 2, 1) := by decide +kernel
theorem dX2_sumOfShares_13 : decode cX2_sumOfShares 13 = .ok (.aload_n 0, 1) := by decide +kernel
theorem dX2_sumOfShares_14 : decode cX2_sumOfShares 14 = .ok (.getfield 11, 3) := by decide +kernel
theorem dX2_sumOfShares_17 : decode cX2_sumOfShares 17 = .ok (.iload_n 3, 1) := by decide +kernel
theorem dX2_sumOfShares_18 : decode cX2_sumOfShares 18 = .ok (.aaload, 1) := by decide +kernel
theorem dX2_sumOfShares_19 : decode cX2_sumOfShares 19 = .ok (.iload_n 1, 1) := by decide +kernel
theorem dX2_sumOfShares_20 : decode cX2_sumOfShares 20 = .ok (.invokevirtual 71, 3) := by decide +kernel
