theorem dX2_sumOfShares_23 : decode cX2_sumOfShares 23 = .ok (.iadd, 1) := by decide +kernel
theorem dX2_sumOfShares_24 : decode cX2_sumOfShares 24 = .ok (.istore_n 2, 1) := by decide +kernel
theorem dX2_sumOfShares_25 : decode cX2_sumOfShares 25 = .ok (.iinc 3 1, 3) := by decide +kernel
theorem dX2_sumOfShares_28 : decode cX2_sumOfShares 28 = .ok (.goto (-24), 3) := by decide +kernel
theorem dX2_sumOfShares_31 : decode cX2_sumOfShares 31 = .ok (.iload_n 2, 1) := by decide +kernel
theorem dX2_sumOfShares_32 : decode cX2_sumOfShares 32 = .ok (.ireturn, 1) := by decide +kernel
theorem dX2_foggerNumber_0 : decode cX2_foggerNumber 0 = .ok (.iload_n 2, 1) := by decide +kernel
theorem dX2_foggerNumber_1 : decode cX2_foggerNumber 1 = .ok (.tableswitch 81 0 4 #[35, 45, 55, 61, 71], 35) := by decide +kernel
theorem dX2_foggerNumber_36 : decode cX2_foggerNumber 36 = .ok (.aload_n 0, 1) := by decide +kernel
theorem dX2_foggerNumber_37 : decode cX2_foggerNumber 37 = .ok (.getfield 20, 3) := by decide +kernel
theorem dX2_foggerNumber_40 : decode cX2_foggerNumber 40 = .ok (.iload_n 1, 1) := by decide +kernel
theorem dX2_foggerNumber_41 : decode cX2_foggerNumber 41 = .ok (.aaload, 1) := by decide +kernel
theorem dX2_foggerNumber_42 : decode cX2_foggerNumber 42 = .ok (.getfield 74, 3) := by decide +kernel
theorem dX2_foggerNumber_45 : decode cX2_foggerNumber 45 = .ok (.ireturn, 1) := by decide +kernel
theorem dX2_foggerNumber_46 : decode cX2_foggerNumber 46 = .ok (.aload_n 0, 1) := by decide +kernel
theorem dX2_foggerNumber_47 : decode cX2_foggerNumber 47 = .ok (.getfield 20, 3) := by decide +kernel
theorem dX2_foggerNumber_50 : decode cX2_foggerNumber 50 = .ok (.iload_n 1, 1) := by decide +kernel
theorem dX2_foggerNumber_51 : decode cX2_foggerNumber 51 = .ok (.aaload, 1) := by decide +kernel
theorem dX2_foggerNumber_52 : decode cX2_foggerNumber 52 = .ok (.getfield 77, 3) := by decide +kernel
theorem dX2_foggerNumber_55 : decode cX2_foggerNumber 55 = .ok (.ireturn, 1) := by decide +kernel
theorem dX2_foggerNumber_56 : decode cX2_foggerNumber 56 = .ok (.aload_n 0, 1) := by decide +kernel
theorem dX2_foggerNumber_57 : decode cX2_foggerNumber 57 = .ok (.iload_n 1, 1) := by decide +kernel
theorem dX2_foggerNumber_58 : decode cX2_foggerNumber 58 = .ok (.invokevirtual 80, 3) := by decide +kernel
theorem dX2_foggerNumber_61 : decode cX2_foggerNumber 61 = .ok (.ireturn, 1) := by decide +kernel
theorem dX2_foggerNumber_62 : decode cX2_foggerNumber 62 = .ok (.aload_n 0, 1) := by decide +kernel
theorem dX2_foggerNumber_63 : decode cX2_foggerNumber 63 = .ok (.getfield 20, 3) := by decide +kernel
theorem dX2_foggerNumber_66 : decode cX2_foggerNumber 66 = .ok (.iload_n 1, 1) := by decide +kernel
theorem dX2_foggerNumber_67 : decode cX2_foggerNumber 67 = .ok (.aaload, 1) := by decide +kernel
theorem dX2_foggerNumber_68 : decode cX2_foggerNumber 68 = .ok (.getfield 68, 3) := by decide +kernel
theorem dX2_foggerNumber_71 : decode cX2_foggerNumber 71 = .ok (.ireturn, 1) := by decide +kernel
theorem dX2_foggerNumber_72 : decode cX2_foggerNumber 72 = .ok (.aload_n 0, 1) := by decide +kernel
theorem dX2_foggerNumber_73 : decode cX2_foggerNumber 73 = .ok (.getfield 20, 3) := by decide +kernel
theorem dX2_foggerNumber_76 : decode cX2_foggerNumber 76 = .ok (.iload_n 1, 1) := by decide +kernel
theorem dX2_foggerNumber_77 : decode cX2_foggerNumber 77 = .ok (.aaload, 1) := by decide +kernel
theorem dX2_foggerNumber_78 : decode cX2_foggerNumber 78 = .ok (.getfield 83, 3) := by decide +kernel
theorem dX2_foggerNumber_81 : decode cX2_foggerNumber 81 = .ok (.ireturn, 1) := by decide +kernel
theorem dX2_foggerNumber_82 : decode cX2_foggerNumber 82 = .ok (.aload_n 0, 1) := by decide +kernel
theorem dX2_foggerNumber_83 : decode cX2_foggerNumber 83 = .ok (.getfield 20, 3) := by decide +kernel
theorem dX2_foggerNumber_86 : decode cX2_foggerNumber 86 = .ok (.iload_n 1, 1) := by decide +kernel
theorem dX2_foggerNumber_87 : decode cX2_foggerNumber 87 = .ok (.aaload, 1) := by decide +kernel
theorem dX2_foggerNumber_88 : decode cX2_foggerNumber 88 = .ok (.getfield 86, 3) := by decide +kernel
theorem dX2_foggerNumber_91 : decode cX2_foggerNumber 91 = .ok (.aload_n 0, 1) := by decide +kernel
theorem dX2_foggerNumber_92 : decode cX2_foggerNumber 92 = .ok (.getfield 20, 3) := by decide +kernel
theorem dX2_foggerNumber_95 : decode cX2_foggerNumber 95 = .ok (.iload_n 1, 1) := by decide +kernel
theorem dX2_foggerNumber_96 : decode cX2_foggerNumber 96 = .ok (.aaload, 1) := by decide +kernel
theorem dX2_foggerNumber_97 : decode cX2_foggerNumber 97 = .ok (.getfield 83, 3) := by decide +kernel
theorem dX2_foggerNumber_100 : decode cX2_foggerNumber 100 = .ok (.isub, 1) := by decide +kernel
theorem dX2_foggerNumber_101 : decode cX2_foggerNumber 101 = .ok (.ireturn, 1) := by decide +kernel
theorem dX2_workersFor_0 : decode cX2_workersFor 0 = .ok (.iconst 0, 1) := by decide +kernel
theorem dX2_workersFor_1 : decode cX2_workersFor 1 = .ok (.istore_n 2, 1) := by decide +kernel
theorem dX2_workersFor_2 : decode cX2_workersFor 2 = .ok (.iconst 0, 1) := by decide +kernel
theorem dX2_workersFor_3 : decode cX2_workersFor 3 = .ok (.istore_n 3, 1) := by decide +kernel
theorem dX2_workersFor_4 : decode cX2_workersFor 4 = .ok (.iload_n 3, 1) := by decide +kernel
theorem dX2_workersFor_5 : decode cX2_workersFor 5 = .ok (.aload_n 0, 1) := by decide +kernel
theorem dX2_workersFor_6 : decode cX2_workersFor 6 = .ok (.getfield 29, 3) := by decide +kernel
theorem dX2_workersFor_9 : decode cX2_workersFor 9 = .ok (.if_icmp .ge 25, 3) := by decide +kernel
theorem dX2_workersFor_12 : decode cX2_workersFor 12 = .ok (.aload_n 0, 1) := by decide +kernel
theorem dX2_workersFor_13 : decode cX2_workersFor 13 = .ok (.getfield 11, 3) := by decide +kernel
theorem dX2_workersFor_16 : decode cX2_workersFor 16 = .ok (.iload_n 3, 1) := by decide +kernel
theorem dX2_workersFor_17 : decode cX2_workersFor 17 = .ok (.aaload, 1) := by decide +kernel
theorem dX2_workersFor_18 : decode cX2_workersFor 18 = .ok (.getfield 49, 3) := by decide +kernel
theorem dX2_workersFor_21 : decode cX2_workersFor 21 = .ok (.iload_n 1, 1) := by decide +kernel
theorem dX2_workersFor_22 : decode cX2_workersFor 22 = .ok (.if_icmp .ne 6, 3) := by decide +kernel
theorem dX2_workersFor_25 : decode cX2_workersFor 25 = .ok (.iinc 2 1, 3) := by decide +kernel
theorem dX2_workersFor_28 : decode cX2_workersFor 28 = .ok (.iinc 3 1, 3) := by decide +kernel
theorem dX2_workersFor_31 : decode cX2_workersFor 31 = .ok (.goto (-27), 3) := by decide +kernel
theorem dX2_workersFor_34 : decode cX2_workersFor 34 = .ok (.iload_n 2, 1) := by decide +kernel
theorem dX2_workersFor_35 : decode cX2_workersFor 35 = .ok (.ireturn, 1) := by decide +kernel
theorem dX3_init_0 : decode cX3_init 0 = .ok (.aload_n 0, 1) := by decide +kernel
theorem dX3_init_1 : decode cX3_init 1 = .ok (.invokespecial 1, 3) := by decide +kernel
theorem dX3_init_4 : decode cX3_init 4 = .ok (.aload_n 0, 1) := by decide +kernel
theorem dX3_init_5 : decode cX3_init 5 = .ok (.new 7, 3) := by decide +kernel
theorem dX3_init_8 : decode cX3_init 8 = .ok (.dup, 1) := by decide +kernel
theorem dX3_init_9 : decode cX3_init 9 = .ok (.invokespecial 9, 3) := by decide +kernel
theorem dX3_init_12 : decode cX3_init 12 = .ok (.putfield 10, 3) := by decide +kernel
theorem dX3_init_15 : decode cX3_init 15 = .ok (.aload_n 0, 1) := by decide +kernel
theorem dX3_init_16 : decode cX3_init 16 = .ok (.new 7, 3) := by decide +kernel
theorem dX3_init_19 : decode cX3_init 19 = .ok (.dup, 1) := by decide +kernel
theorem dX3_init_20 : decode cX3_init 20 = .ok (.invokespecial 9, 3) := by decide +kernel
theorem dX3_init_23 : decode cX3_init 23 = .ok (.putfield 16, 3) := by decide +kernel
theorem dX3_init_26 : decode cX3_init 26 = .ok (.aload_n 0, 1) := by decide +kernel
theorem dX3_init_27 : decode cX3_init 27 = .ok (.new 19, 3) := by decide +kernel
theorem dX3_init_30 : decode cX3_init 30 = .ok (.dup, 1) := by decide +kernel
theorem dX3_init_31 : decode cX3_init 31 = .ok (.invokespecial 21, 3) := by decide +kernel
theorem dX3_init_34 : decode cX3_init 34 = .ok (.putfield 22, 3) := by decide +kernel
theorem dX3_init_37 : decode cX3_init 37 = .ok (.return_, 1) := by decide +kernel
theorem dX3_nailer_0 : decode cX3_nailer 0 = .ok (.iload_n 2, 1) := by decide +kernel
theorem dX3_nailer_1 : decode cX3_nailer 1 = .ok (.iconst 4, 1) := by decide +kernel
theorem dX3_nailer_2 : decode cX3_nailer 2 = .ok (.invokestatic 26, 3) := by decide +kernel
theorem dX3_nailer_5 : decode cX3_nailer 5 = .ok (.iload_n 3, 1) := by decide +kernel
theorem dX3_nailer_6 : decode cX3_nailer 6 = .ok (.iconst 4, 1) := by decide +kernel
theorem dX3_nailer_7 : decode cX3_nailer 7 = .ok (.invokestatic 26, 3) := by decide +kernel
theorem dX3_nailer_10 : decode cX3_nailer 10 = .ok (.iload_n 1, 1) := by decide +kernel
theorem dX3_nailer_11 : decode cX3_nailer 11 = .ok (.iconst 1, 1) := by decide +kernel
theorem dX3_nailer_12 : decode cX3_nailer 12 = .ok (.bipush 9, 2) := by decide +kernel
theorem dX3_nailer_14 : decode cX3_nailer 14 = .ok (.invokestatic 30, 3) := by decide +kernel
theorem dX3_nailer_17 : decode cX3_nailer 17 = .ok (.aload_n 0, 1) := by decide +kernel
theorem dX3_nailer_18 : decode cX3_nailer 18 = .ok (.getfield 10, 3) := by decide +kernel
theorem dX3_nailer_21 : decode cX3_nailer 21 = .ok (.getfield 34, 3) := by decide +kernel
theorem dX3_nailer_24 : decode cX3_nailer 24 = .ok (.bipush 12, 2) := by decide +kernel
theorem dX3_nailer_26 : decode cX3_nailer 26 = .ok (.if_icmp .lt 13, 3) := by decide +kernel
theorem dX3_nailer_29 : decode cX3_nailer 29 = .ok (.new 38, 3) := by decide +kernel
theorem dX3_nailer_32 : decode cX3_nailer 32 = .ok (.dup, 1) := by decide +kernel
theorem dX3_nailer_33 : decode cX3_nailer 33 = .ok (.ldc 40, 2) := by decide +kernel
theorem dX3_nailer_35 : decode cX3_nailer 35 = .ok (.invokespecial 42, 3) := by decide +kernel
theorem dX3_nailer_38 : decode cX3_nailer 38 = .ok (.athrow, 1) := by decide +kernel
theorem dX3_nailer_39 : decode cX3_nailer 39 = .ok (.aload_n 0, 1) := by decide +kernel
theorem dX3_nailer_40 : decode cX3_nailer 40 = .ok (.getfield 10, 3) := by decide +kernel
theorem dX3_nailer_43 : decode cX3_nailer 43 = .ok (.getfield 34, 3) := by decide +kernel
theorem dX3_nailer_46 : decode cX3_nailer 46 = .ok (.istore 4, 2) := by decide +kernel
theorem dX3_nailer_48 : decode cX3_nailer 48 = .ok (.aload_n 0, 1) := by decide +kernel
theorem dX3_nailer_49 : decode cX3_nailer 49 = .ok (.getfield 10, 3) := by decide +kernel
theorem dX3_nailer_52 : decode cX3_nailer 52 = .ok (.getfield 45, 3) := by decide +kernel
theorem dX3_nailer_55 : decode cX3_nailer 55 = .ok (.iload 4, 2) := by decide +kernel
theorem dX3_nailer_57 : decode cX3_nailer 57 = .ok (.aaload, 1) := by decide +kernel
theorem dX3_nailer_58 : decode cX3_nailer 58 = .ok (.iload_n 1, 1) := by decide +kernel
theorem dX3_nailer_59 : decode cX3_nailer 59 = .ok (.iload_n 2, 1) := by decide +kernel
theorem dX3_nailer_60 : decode cX3_nailer 60 = .ok (.iload_n 3, 1) := by decide +kernel
theorem dX3_nailer_61 : decode cX3_nailer 61 = .ok (.invokevirtual 49, 3) := by decide +kernel
theorem dX3_nailer_64 : decode cX3_nailer 64 = .ok (.aload_n 0, 1) := by decide +kernel
theorem dX3_nailer_65 : decode cX3_nailer 65 = .ok (.getfield 10, 3) := by decide +kernel
theorem dX3_nailer_68 : decode cX3_nailer 68 = .ok (.iload 4, 2) := by decide +kernel
theorem dX3_nailer_70 : decode cX3_nailer 70 = .ok (.iconst 1, 1) := by decide +kernel
theorem dX3_nailer_71 : decode cX3_nailer 71 = .ok (.iadd, 1) := by decide +kernel
theorem dX3_nailer_72 : decode cX3_nailer 72 = .ok (.putfield 34, 3) := by decide +kernel
theorem dX3_nailer_75 : decode cX3_nailer 75 = .ok (.iload 4, 2) := by decide +kernel
theorem dX3_nailer_77 : decode cX3_nailer 77 = .ok (.ireturn, 1) := by decide +kernel
theorem dX3_lend_0 : decode cX3_lend 0 = .ok (.aload_n 0, 1) := by decide +kernel
theorem dX3_lend_1 : decode cX3_lend 1 = .ok (.iload_n 1, 1) := by decide +kernel
theorem dX3_lend_2 : decode cX3_lend 2 = .ok (.invokevirtual 52, 3) := by decide +kernel
theorem dX3_lend_5 : decode cX3_lend 5 = .ok (.iload_n 2, 1) := by decide +kernel
theorem dX3_lend_6 : decode cX3_lend 6 = .ok (.iconst 1, 1) := by decide +kernel
theorem dX3_lend_7 : decode cX3_lend 7 = .ok (.bipush 20, 2) := by decide +kernel
theorem dX3_lend_9 : decode cX3_lend 9 = .ok (.invokestatic 30, 3) := by decide +kernel
theorem dX3_lend_12 : decode cX3_lend 12 = .ok (.aload_n 0, 1) := by decide +kernel
theorem dX3_lend_13 : decode cX3_lend 13 = .ok (.getfield 10, 3) := by decide +kernel
theorem dX3_lend_16 : decode cX3_lend 16 = .ok (.getfield 45, 3) := by decide +kernel
theorem dX3_lend_19 : decode cX3_lend 19 = .ok (.iload_n 1, 1) := by decide +kernel
theorem dX3_lend_20 : decode cX3_lend 20 = .ok (.aaload, 1) := by decide +kernel
theorem dX3_lend_21 : decode cX3_lend 21 = .ok (.astore_n 3, 1) := by decide +kernel
theorem dX3_lend_22 : decode cX3_lend 22 = .ok (.aload_n 3, 1) := by decide +kernel
theorem dX3_lend_23 : decode cX3_lend 23 = .ok (.getfield 56, 3) := by decide +kernel
theorem dX3_lend_26 : decode cX3_lend 26 = .ok (.iload_n 2, 1) := by decide +kernel
theorem dX3_lend_27 : decode cX3_lend 27 = .ok (.iconst 3, 1) := by decide +kernel
theorem dX3_lend_28 : decode cX3_lend 28 = .ok (.imul, 1) := by decide +kernel
theorem dX3_lend_29 : decode cX3_lend 29 = .ok (.iadd, 1) := by decide +kernel
theorem dX3_lend_30 : decode cX3_lend 30 = .ok (.istore 4, 2) := by decide +kernel
theorem dX3_lend_32 : decode cX3_lend 32 = .ok (.iload 4, 2) := by decide +kernel
theorem dX3_lend_34 : decode cX3_lend 34 = .ok (.bipush 90, 2) := by decide +kernel
theorem dX3_lend_36 : decode cX3_lend 36 = .ok (.if_icmp .le 13, 3) := by decide +kernel
theorem dX3_lend_39 : decode cX3_lend 39 = .ok (.new 38, 3) := by decide +kernel
theorem dX3_lend_42 : decode cX3_lend 42 = .ok (.dup, 1) := by decide +kernel
theorem dX3_lend_43 : decode cX3_lend 43 = .ok (.ldc 59, 2) := by decide +kernel
theorem dX3_lend_45 : decode cX3_lend 45 = .ok (.invokespecial 42, 3) := by decide +kernel
theorem dX3_lend_48 : decode cX3_lend 48 = .ok (.athrow, 1) := by decide +kernel
theorem dX3_lend_49 : decode cX3_lend 49 = .ok (.aload_n 3, 1) := by decide +kernel
theorem dX3_lend_50 : decode cX3_lend 50 = .ok (.dup, 1) := by decide +kernel
theorem dX3_lend_51 : decode cX3_lend 51 = .ok (.getfield 61, 3) := by decide +kernel
theorem dX3_lend_54 : decode cX3_lend 54 = .ok (.iload_n 2, 1) := by decide +kernel
theorem dX3_lend_55 : decode cX3_lend 55 = .ok (.iadd, 1) := by decide +kernel
theorem dX3_lend_56 : decode cX3_lend 56 = .ok (.putfield 61, 3) := by decide +kernel
theorem dX3_lend_59 : decode cX3_lend 59 = .ok (.aload_n 3, 1) := by decide +kernel
theorem dX3_lend_60 : decode cX3_lend 60 = .ok (.iload 4, 2) := by decide +kernel
theorem dX3_lend_62 : decode cX3_lend 62 = .ok (.putfield 56, 3) := by decide +kernel
theorem dX3_lend_65 : decode cX3_lend 65 = .ok (.iload 4, 2) := by decide +kernel
theorem dX3_lend_67 : decode cX3_lend 67 = .ok (.ireturn, 1) := by decide +kernel
theorem dX3_coal_0 : decode cX3_coal 0 = .ok (.aload_n 0, 1) := by decide +kernel
theorem dX3_coal_1 : decode cX3_coal 1 = .ok (.iload_n 1, 1) := by decide +kernel
theorem dX3_coal_2 : decode cX3_coal 2 = .ok (.invokevirtual 52, 3) := by decide +kernel
theorem dX3_coal_5 : decode cX3_coal 5 = .ok (.iload_n 2, 1) := by decide +kernel
theorem dX3_coal_6 : decode cX3_coal 6 = .ok (.iconst 1, 1) := by decide +kernel
theorem dX3_coal_7 : decode cX3_coal 7 = .ok (.bipush 99, 2) := by decide +kernel
theorem dX3_coal_9 : decode cX3_coal 9 = .ok (.invokestatic 30, 3) := by decide +kernel
theorem dX3_coal_12 : decode cX3_coal 12 = .ok (.aload_n 0, 1) := by decide +kernel
theorem dX3_coal_13 : decode cX3_coal 13 = .ok (.getfield 10, 3) := by decide +kernel
theorem dX3_coal_16 : decode cX3_coal 16 = .ok (.getfield 45, 3) := by decide +kernel
theorem dX3_coal_19 : decode cX3_coal 19 = .ok (.iload_n 1, 1) := by decide +kernel
theorem dX3_coal_20 : decode cX3_coal 20 = .ok (.aaload, 1) := by decide +kernel
theorem dX3_coal_21 : decode cX3_coal 21 = .ok (.astore_n 3, 1) := by decide +kernel
theorem dX3_coal_22 : decode cX3_coal 22 = .ok (.iload_n 2, 1) := by decide +kernel
theorem dX3_coal_23 : decode cX3_coal 23 = .ok (.iconst 4, 1) := by decide +kernel
theorem dX3_coal_24 : decode cX3_coal 24 = .ok (.iadd, 1) := by decide +kernel
theorem dX3_coal_25 : decode cX3_coal 25 = .ok (.iconst 1, 1) := by decide +kernel
theorem dX3_coal_26 : decode cX3_coal 26 = .ok (.isub, 1) := by decide +kernel
theorem dX3_coal_27 : decode cX3_coal 27 = .ok (.iconst 4, 1) := by decide +kernel
theorem dX3_coal_28 : decode cX3_coal 28 = .ok (.idiv, 1) := by decide +kernel
theorem dX3_coal_29 : decode cX3_coal 29 = .ok (.istore 4, 2) := by decide +kernel
theorem dX3_coal_31 : decode cX3_coal 31 = .ok (.iload 4, 2) := by decide +kernel
theorem dX3_coal_33 : decode cX3_coal 33 = .ok (.aload_n 3, 1) := by decide +kernel
theorem dX3_coal_34 : decode cX3_coal 34 = .ok (.getfield 64, 3) := by decide +kernel
theorem dX3_coal_37 : decode cX3_coal 37 = .ok (.if_icmp .gt 14, 3) := by decide +kernel
theorem dX3_coal_40 : decode cX3_coal 40 = .ok (.aload_n 3, 1) := by decide +kernel
theorem dX3_coal_41 : decode cX3_coal 41 = .ok (.getfield 67, 3) := by decide +kernel
theorem dX3_coal_44 : decode cX3_coal 44 = .ok (.iload_n 2, 1) := by decide +kernel
theorem dX3_coal_45 : decode cX3_coal 45 = .ok (.iadd, 1) := by decide +kernel
theorem dX3_coal_46 : decode cX3_coal 46 = .ok (.bipush 99, 2) := by decide +kernel
theorem dX3_coal_48 : decode cX3_coal 48 = .ok (.if_icmp .le 13, 3) := by decide +kernel
theorem dX3_coal_51 : decode cX3_coal 51 = .ok (.new 38, 3) := by decide +kernel
theorem dX3_coal_54 : decode cX3_coal 54 = .ok (.dup, 1) := by decide +kernel
theorem dX3_coal_55 : decode cX3_coal 55 = .ok (.ldc 70, 2) := by decide +kernel
theorem dX3_coal_57 : decode cX3_coal 57 = .ok (.invokespecial 42, 3) := by decide +kernel
theorem dX3_coal_60 : decode cX3_coal 60 = .ok (.athrow, 1) := by decide +kernel
theorem dX3_coal_61 : decode cX3_coal 61 = .ok (.aload_n 3, 1) := by decide +kernel
theorem dX3_coal_62 : decode cX3_coal 62 = .ok (.dup, 1) := by decide +kernel
theorem dX3_coal_63 : decode cX3_coal 63 = .ok (.getfield 64, 3) := by decide +kernel
theorem dX3_coal_66 : decode cX3_coal 66 = .ok (.iload 4, 2) := by decide +kernel
theorem dX3_coal_68 : decode cX3_coal 68 = .ok (.isub, 1) := by decide +kernel
theorem dX3_coal_69 : decode cX3_coal 69 = .ok (.putfield 64, 3) := by decide +kernel
theorem dX3_coal_72 : decode cX3_coal 72 = .ok (.aload_n 3, 1) := by decide +kernel
theorem dX3_coal_73 : decode cX3_coal 73 = .ok (.dup, 1) := by decide +kernel
theorem dX3_coal_74 : decode cX3_coal 74 = .ok (.getfield 67, 3) := by decide +kernel
theorem dX3_coal_77 : decode cX3_coal 77 = .ok (.iload_n 2, 1) := by decide +kernel
theorem dX3_coal_78 : decode cX3_coal 78 = .ok (.iadd, 1) := by decide +kernel
theorem dX3_coal_79 : decode cX3_coal 79 = .ok (.putfield 67, 3) := by decide +kernel
theorem dX3_coal_82 : decode cX3_coal 82 = .ok (.aload_n 3, 1) := by decide +kernel
theorem dX3_coal_83 : decode cX3_coal 83 = .ok (.getfield 67, 3) := by decide +kernel
theorem dX3_coal_86 : decode cX3_coal 86 = .ok (.ireturn, 1) := by decide +kernel
theorem dX3_told_0 : decode cX3_told 0 = .ok (.aload_n 0, 1) := by decide +kernel
theorem dX3_told_1 : decode cX3_told 1 = .ok (.iload_n 1, 1) := by decide +kernel
theorem dX3_told_2 : decode cX3_told 2 = .ok (.invokevirtual 52, 3) := by decide +kernel
theorem dX3_told_5 : decode cX3_told 5 = .ok (.iload_n 2, 1) := by decide +kernel
theorem dX3_told_6 : decode cX3_told 6 = .ok (.bipush 12, 2) := by decide +kernel
theorem dX3_told_8 : decode cX3_told 8 = .ok (.invokestatic 26, 3) := by decide +kernel
theorem dX3_told_11 : decode cX3_told 11 = .ok (.aload_n 0, 1) := by decide +kernel
theorem dX3_told_12 : decode cX3_told 12 = .ok (.getfield 10, 3) := by decide +kernel
theorem dX3_told_15 : decode cX3_told 15 = .ok (.getfield 45, 3) := by decide +kernel
theorem dX3_told_18 : decode cX3_told 18 = .ok (.iload_n 1, 1) := by decide +kernel
theorem dX3_told_19 : decode cX3_told 19 = .ok (.aaload, 1) := by decide +kernel
theorem dX3_told_20 : decode cX3_told 20 = .ok (.iload_n 2, 1) := by decide +kernel
theorem dX3_told_21 : decode cX3_told 21 = .ok (.invokevirtual 80, 3) := by decide +kernel
theorem dX3_told_24 : decode cX3_told 24 = .ok (.ireturn, 1) := by decide +kernel
theorem dX3_nails_0 : decode cX3_nails 0 = .ok (.aload_n 0, 1) := by decide +kernel
theorem dX3_nails_1 : decode cX3_nails 1 = .ok (.iload_n 1, 1) := by decide +kernel
theorem dX3_nails_2 : decode cX3_nails 2 = .ok (.invokevirtual 52, 3) := by decide +kernel
theorem dX3_nails_5 : decode cX3_nails 5 = .ok (.iload_n 2, 1) := by decide +kernel
theorem dX3_nails_6 : decode cX3_nails 6 = .ok (.iconst 4, 1) := by decide +kernel
theorem dX3_nails_7 : decode cX3_nails 7 = .ok (.invokestatic 26, 3) := by decide +kernel
theorem dX3_nails_10 : decode cX3_nails 10 = .ok (.iload_n 3, 1) := by decide +kernel
theorem dX3_nails_11 : decode cX3_nails 11 = .ok (.iconst 2, 1) := by decide +kernel
theorem dX3_nails_12 : decode cX3_nails 12 = .ok (.invokestatic 26, 3) := by decide +kernel
theorem dX3_nails_15 : decode cX3_nails 15 = .ok (.aload_n 0, 1) := by decide +kernel
theorem dX3_nails_16 : decode cX3_nails 16 = .ok (.getfield 10, 3) := by decide +kernel
theorem dX3_nails_19 : decode cX3_nails 19 = .ok (.getfield 45, 3) := by decide +kernel
theorem dX3_nails_22 : decode cX3_nails 22 = .ok (.iload_n 1, 1) := by decide +kernel
theorem dX3_nails_23 : decode cX3_nails 23 = .ok (.aaload, 1) := by decide +kernel
theorem dX3_nails_24 : decode cX3_nails 24 = .ok (.astore 4, 2) := by decide +kernel
theorem dX3_nails_26 : decode cX3_nails 26 = .ok (.iload_n 3, 1) := by decide +kernel
theorem dX3_nails_27 : decode cX3_nails 27 = .ok (.ifCond .ne 13, 3) := by decide +kernel
theorem dX3_nails_30 : decode cX3_nails 30 = .ok (.aload 4, 2) := by decide +kernel
theorem dX3_nails_32 : decode cX3_nails 32 = .ok (.getfield 84, 3) := by decide +kernel
theorem dX3_nails_35 : decode cX3_nails 35 = .ok (.iload_n 2, 1) := by decide +kernel
theorem dX3_nails_36 : decode cX3_nails 36 = .ok (.iaload, 1) := by decide +kernel
theorem dX3_nails_37 : decode cX3_nails 37 = .ok (.goto 10, 3) := by decide +kernel
theorem dX3_nails_40 : decode cX3_nails 40 = .ok (.aload 4, 2) := by decide +kernel
theorem dX3_nails_42 : decode cX3_nails 42 = .ok (.getfield 88, 3) := by decide +kernel
theorem dX3_nails_45 : decode cX3_nails 45 = .ok (.iload_n 2, 1) := by decide +kernel
theorem dX3_nails_46 : decode cX3_nails 46 = .ok (.iaload, 1) := by decide +kernel
theorem dX3_nails_47 : decode cX3_nails 47 = .ok (.ireturn, 1) := by decide +kernel
theorem dX3_keep_0 : decode cX3_keep 0 = .ok (.iload_n 1, 1) := by decide +kernel
theorem dX3_keep_1 : decode cX3_keep 1 = .ok (.iconst 4, 1) := by decide +kernel
theorem dX3_keep_2 : decode cX3_keep 2 = .ok (.invokestatic 26, 3) := by decide +kernel
theorem dX3_keep_5 : decode cX3_keep 5 = .ok (.iload_n 2, 1) := by decide +kernel
theorem dX3_keep_6 : decode cX3_keep 6 = .ok (.iconst 0, 1) := by decide +kernel
theorem dX3_keep_7 : decode cX3_keep 7 = .ok (.bipush 60, 2) := by decide +kernel
theorem dX3_keep_9 : decode cX3_keep 9 = .ok (.invokestatic 30, 3) := by decide +kernel
theorem dX3_keep_12 : decode cX3_keep 12 = .ok (.aload_n 0, 1) := by decide +kernel
theorem dX3_keep_13 : decode cX3_keep 13 = .ok (.getfield 10, 3) := by decide +kernel
theorem dX3_keep_16 : decode cX3_keep 16 = .ok (.getfield 91, 3) := by decide +kernel
theorem dX3_keep_19 : decode cX3_keep 19 = .ok (.iload_n 1, 1) := by decide +kernel
theorem dX3_keep_20 : decode cX3_keep 20 = .ok (.aaload, 1) := by decide +kernel
theorem dX3_keep_21 : decode cX3_keep 21 = .ok (.getfield 95, 3) := by decide +kernel
theorem dX3_keep_24 : decode cX3_keep 24 = .ok (.istore_n 3, 1) := by decide +kernel
theorem dX3_keep_25 : decode cX3_keep 25 = .ok (.aload_n 0, 1) := by decide +kernel
theorem dX3_keep_26 : decode cX3_keep 26 = .ok (.getfield 10, 3) := by decide +kernel
theorem dX3_keep_29 : decode cX3_keep 29 = .ok (.getfield 91, 3) := by decide +kernel
theorem dX3_keep_32 : decode cX3_keep 32 = .ok (.iload_n 1, 1) := by decide +kernel
theorem dX3_keep_33 : decode cX3_keep 33 = .ok (.aaload, 1) := by decide +kernel
theorem dX3_keep_34 : decode cX3_keep 34 = .ok (.iload_n 2, 1) := by decide +kernel
theorem dX3_keep_35 : decode cX3_keep 35 = .ok (.putfield 95, 3) := by decide +kernel
theorem dX3_keep_38 : decode cX3_keep 38 = .ok (.iload_n 3, 1) := by decide +kernel
theorem dX3_keep_39 : decode cX3_keep 39 = .ok (.ireturn, 1) := by decide +kernel
theorem dX3_fogger_0 : decode cX3_fogger 0 = .ok (.iload_n 1, 1) := by decide +kernel
theorem dX3_fogger_1 : decode cX3_fogger 1 = .ok (.iconst 4, 1) := by decide +kernel
theorem dX3_fogger_2 : decode cX3_fogger 2 = .ok (.invokestatic 26, 3) := by decide +kernel
theorem dX3_fogger_5 : decode cX3_fogger 5 = .ok (.iload_n 2, 1) := by decide +kernel
theorem dX3_fogger_6 : decode cX3_fogger 6 = .ok (.bipush 6, 2) := by decide +kernel
theorem dX3_fogger_8 : decode cX3_fogger 8 = .ok (.invokestatic 26, 3) := by decide +kernel
theorem dX3_fogger_11 : decode cX3_fogger 11 = .ok (.aload_n 0, 1) := by decide +kernel
theorem dX3_fogger_12 : decode cX3_fogger 12 = .ok (.getfield 10, 3) := by decide +kernel
theorem dX3_fogger_15 : decode cX3_fogger 15 = .ok (.iload_n 1, 1) := by decide +kernel
theorem dX3_fogger_16 : decode cX3_fogger 16 = .ok (.iload_n 2, 1) := by decide +kernel
theorem dX3_fogger_17 : decode cX3_fogger 17 = .ok (.invokevirtual 100, 3) := by decide +kernel
theorem dX3_fogger_20 : decode cX3_fogger 20 = .ok (.ireturn, 1) := by decide +kernel
theorem dX3_count_0 : decode cX3_count 0 = .ok (.iload_n 1, 1) := by decide +kernel
theorem dX3_count_1 : decode cX3_count 1 = .ok (.bipush 11, 2) := by decide +kernel
theorem dX3_count_3 : decode cX3_count 3 = .ok (.invokestatic 26, 3) := by decide +kernel
theorem dX3_count_6 : decode cX3_count 6 = .ok (.aload_n 0, 1) := by decide +kernel
theorem dX3_count_7 : decode cX3_count 7 = .ok (.getfield 10, 3) := by decide +kernel
theorem dX3_count_10 : decode cX3_count 10 = .ok (.iload_n 1, 1) := by decide +kernel
theorem dX3_count_11 : decode cX3_count 11 = .ok (.invokevirtual 104, 3) := by decide +kernel
theorem dX3_count_14 : decode cX3_count 14 = .ok (.ireturn, 1) := by decide +kernel
theorem dX3_pass_0 : decode cX3_pass 0 = .ok (.iload_n 1, 1) := by decide +kernel
theorem dX3_pass_1 : decode cX3_pass 1 = .ok (.iconst 1, 1) := by decide +kernel
theorem dX3_pass_2 : decode cX3_pass 2 = .ok (.sipush 240, 3) := by decide +kernel
theorem dX3_pass_5 : decode cX3_pass 5 = .ok (.invokestatic 30, 3) := by decide +kernel
theorem dX3_pass_8 : decode cX3_pass 8 = .ok (.aload_n 0, 1) := by decide +kernel
theorem dX3_pass_9 : decode cX3_pass 9 = .ok (.getfield 10, 3) := by decide +kernel
theorem dX3_pass_12 : decode cX3_pass 12 = .ok (.iload_n 1, 1) := by decide +kernel
theorem dX3_pass_13 : decode cX3_pass 13 = .ok (.invokevirtual 107, 3) := by decide +kernel
theorem dX3_pass_16 : decode cX3_pass 16 = .ok (.ireturn, 1) := by decide +kernel
theorem dX3_rate_0 : decode cX3_rate 0 = .ok (.aload_n 0, 1) := by decide +kernel
theorem dX3_rate_1 : decode cX3_rate 1 = .ok (.iload_n 1, 1) := by decide +kernel
theorem dX3_rate_2 : decode cX3_rate 2 = .ok (.invokevirtual 52, 3) := by decide +kernel
theorem dX3_rate_5 : decode cX3_rate 5 = .ok (.aload_n 0, 1) := by decide +kernel
theorem dX3_rate_6 : decode cX3_rate 6 = .ok (.getfield 22, 3) := by decide +kernel
theorem dX3_rate_9 : decode cX3_rate 9 = .ok (.aload_n 0, 1) := by decide +kernel
theorem dX3_rate_10 : decode cX3_rate 10 = .ok (.getfield 10, 3) := by decide +kernel
theorem dX3_rate_13 : decode cX3_rate 13 = .ok (.getfield 45, 3) := by decide +kernel
theorem dX3_rate_16 : decode cX3_rate 16 = .ok (.iload_n 1, 1) := by decide +kernel
theorem dX3_rate_17 : decode cX3_rate 17 = .ok (.aaload, 1) := by decide +kernel
theorem dX3_rate_18 : decode cX3_rate 18 = .ok (.invokevirtual 110, 3) := by decide +kernel
theorem dX3_rate_21 : decode cX3_rate 21 = .ok (.aload_n 0, 1) := by decide +kernel
theorem dX3_rate_22 : decode cX3_rate 22 = .ok (.getfield 22, 3) := by decide +kernel
theorem dX3_rate_25 : decode cX3_rate 25 = .ok (.iconst 1, 1) := by decide +kernel
theorem dX3_rate_26 : decode cX3_rate 26 = .ok (.invokevirtual 114, 3) := by decide +kernel
theorem dX3_rate_29 : decode cX3_rate 29 = .ok (.ireturn, 1) := by decide +kernel
theorem dX3_foresee_0 : decode cX3_foresee 0 = .ok (.iload_n 1, 1) := by decide +kernel
theorem dX3_foresee_1 : decode cX3_foresee 1 = .ok (.iconst 1, 1) := by decide +kernel
theorem dX3_foresee_2 : decode cX3_foresee 2 = .ok (.sipush 240, 3) := by decide +kernel
theorem dX3_foresee_5 : decode cX3_foresee 5 = .ok (.invokestatic 30, 3) := by decide +kernel
theorem dX3_foresee_8 : decode cX3_foresee 8 = .ok (.iload_n 2, 1) := by decide +kernel
theorem dX3_foresee_9 : decode cX3_foresee 9 = .ok (.iconst 3, 1) := by decide +kernel
theorem dX3_foresee_10 : decode cX3_foresee 10 = .ok (.if_icmp .lt 9, 3) := by decide +kernel
theorem dX3_foresee_13 : decode cX3_foresee 13 = .ok (.iload_n 2, 1) := by decide +kernel
theorem dX3_foresee_14 : decode cX3_foresee 14 = .ok (.bipush 8, 2) := by decide +kernel
theorem dX3_foresee_16 : decode cX3_foresee 16 = .ok (.if_icmp .le 13, 3) := by decide +kernel
theorem dX3_foresee_19 : decode cX3_foresee 19 = .ok (.new 117, 3) := by decide +kernel
theorem dX3_foresee_22 : decode cX3_foresee 22 = .ok (.dup, 1) := by decide +kernel
theorem dX3_foresee_23 : decode cX3_foresee 23 = .ok (.ldc 119, 2) := by decide +kernel
theorem dX3_foresee_25 : decode cX3_foresee 25 = .ok (.invokespecial 121, 3) := by decide +kernel
theorem dX3_foresee_28 : decode cX3_foresee 28 = .ok (.athrow, 1) := by decide +kernel
theorem dX3_foresee_29 : decode cX3_foresee 29 = .ok (.aload_n 0, 1) := by decide +kernel
theorem dX3_foresee_30 : decode cX3_foresee 30 = .ok (.getfield 16, 3) := by decide +kernel
theorem dX3_foresee_33 : decode cX3_foresee 33 = .ok (.aload_n 0, 1) := by decide +kernel
theorem dX3_foresee_34 : decode cX3_foresee 34 = .ok (.getfield 10, 3) := by decide +kernel
theorem dX3_foresee_37 : decode cX3_foresee 37 = .ok (.invokevirtual 122, 3) := by decide +kernel
theorem dX3_foresee_40 : decode cX3_foresee 40 = .ok (.aload_n 0, 1) := by decide +kernel
theorem dX3_foresee_41 : decode cX3_foresee 41 = .ok (.getfield 16, 3) := by decide +kernel
theorem dX3_foresee_44 : decode cX3_foresee 44 = .ok (.iload_n 1, 1) := by decide +kernel
theorem dX3_foresee_45 : decode cX3_foresee 45 = .ok (.invokevirtual 107, 3) := by decide +kernel
theorem dX3_foresee_48 : decode cX3_foresee 48 = .ok (.pop, 1) := by decide +kernel
theorem dX3_foresee_49 : decode cX3_foresee 49 = .ok (.aload_n 0, 1) := by decide +kernel
theorem dX3_foresee_50 : decode cX3_foresee 50 = .ok (.getfield 16, 3) := by decide +kernel
theorem dX3_foresee_53 : decode cX3_foresee 53 = .ok (.iload_n 2, 1) := by decide +kernel
theorem dX3_foresee_54 : decode cX3_foresee 54 = .ok (.invokevirtual 104, 3) := by decide +kernel
theorem dX3_foresee_57 : decode cX3_foresee 57 = .ok (.ireturn, 1) := by decide +kernel
theorem dX3_advise_0 : decode cX3_advise 0 = .ok (.aload_n 0, 1) := by decide +kernel
theorem dX3_advise_1 : decode cX3_advise 1 = .ok (.iload_n 1, 1) := by decide +kernel
theorem dX3_advise_2 : decode cX3_advise 2 = .ok (.invokevirtual 52, 3) := by decide +kernel
theorem dX3_advise_5 : decode cX3_advise 5 = .ok (.iload_n 2, 1) := by decide +kernel
theorem dX3_advise_6 : decode cX3_advise 6 = .ok (.iconst 1, 1) := by decide +kernel
theorem dX3_advise_7 : decode cX3_advise 7 = .ok (.bipush 120, 2) := by decide +kernel
theorem dX3_advise_9 : decode cX3_advise 9 = .ok (.invokestatic 30, 3) := by decide +kernel
theorem dX3_advise_12 : decode cX3_advise 12 = .ok (.iconst 0, 1) := by decide +kernel
theorem dX3_advise_13 : decode cX3_advise 13 = .ok (.istore_n 3, 1) := by decide +kernel
theorem dX3_advise_14 : decode cX3_advise 14 = .ok (.iconst (-1), 1) := by decide +kernel
theorem dX3_advise_15 : decode cX3_advise 15 = .ok (.istore 4, 2) := by decide +kernel
theorem dX3_advise_17 : decode cX3_advise 17 = .ok (.iconst 0, 1) := by decide +kernel
theorem dX3_advise_18 : decode cX3_advise 18 = .ok (.istore 5, 2) := by decide +kernel
theorem dX3_advise_20 : decode cX3_advise 20 = .ok (.iload 5, 2) := by decide +kernel
theorem dX3_advise_22 : decode cX3_advise 22 = .ok (.iconst 4, 1) := by decide +kernel
theorem dX3_advise_23 : decode cX3_advise 23 = .ok (.if_icmp .ge 65, 3) := by decide +kernel
theorem dX3_advise_26 : decode cX3_advise 26 = .ok (.aload_n 0, 1) := by decide +kernel
theorem dX3_advise_27 : decode cX3_advise 27 = .ok (.getfield 22, 3) := by decide +kernel
theorem dX3_advise_30 : decode cX3_advise 30 = .ok (.aload_n 0, 1) := by decide +kernel
theorem dX3_advise_31 : decode cX3_advise 31 = .ok (.getfield 10, 3) := by decide +kernel
theorem dX3_advise_34 : decode cX3_advise 34 = .ok (.getfield 45, 3) := by decide +kernel
theorem dX3_advise_37 : decode cX3_advise 37 = .ok (.iload_n 1, 1) := by decide +kernel
theorem dX3_advise_38 : decode cX3_advise 38 = .ok (.aaload, 1) := by decide +kernel
theorem dX3_advise_39 : decode cX3_advise 39 = .ok (.invokevirtual 110, 3) := by decide +kernel
theorem dX3_advise_42 : decode cX3_advise 42 = .ok (.aload_n 0, 1) := by decide +kernel
theorem dX3_advise_43 : decode cX3_advise 43 = .ok (.getfield 22, 3) := by decide +kernel
theorem dX3_advise_46 : decode cX3_advise 46 = .ok (.iload 5, 2) := by decide +kernel
theorem dX3_advise_48 : decode cX3_advise 48 = .ok (.putfield 72, 3) := by decide +kernel
theorem dX3_advise_51 : decode cX3_advise 51 = .ok (.aload_n 0, 1) := by decide +kernel
theorem dX3_advise_52 : decode cX3_advise 52 = .ok (.getfield 22, 3) := by decide +kernel
theorem dX3_advise_55 : decode cX3_advise 55 = .ok (.iload_n 2, 1) := by decide +kernel
theorem dX3_advise_56 : decode cX3_advise 56 = .ok (.invokevirtual 114, 3) := by decide +kernel
theorem dX3_advise_59 : decode cX3_advise 59 = .ok (.getstatic 125, 3) := by decide +kernel
theorem dX3_advise_62 : decode cX3_advise 62 = .ok (.iload 5, 2) := by decide +kernel
theorem dX3_advise_64 : decode cX3_advise 64 = .ok (.iaload, 1) := by decide +kernel
theorem dX3_advise_65 : decode cX3_advise 65 = .ok (.imul, 1) := by decide +kernel
theorem dX3_advise_66 : decode cX3_advise 66 = .ok (.istore 6, 2) := by decide +kernel
theorem dX3_advise_68 : decode cX3_advise 68 = .ok (.iload 6, 2) := by decide +kernel
theorem dX3_advise_70 : decode cX3_advise 70 = .ok (.iload 4, 2) := by decide +kernel
theorem dX3_advise_72 : decode cX3_advise 72 = .ok (.if_icmp .le 10, 3) := by decide +kernel
theorem dX3_advise_75 : decode cX3_advise 75 = .ok (.iload 5, 2) := by decide +kernel
theorem dX3_advise_77 : decode cX3_advise 77 = .ok (.istore_n 3, 1) := by decide +kernel
theorem dX3_advise_78 : decode cX3_advise 78 = .ok (.iload 6, 2) := by decide +kernel
theorem dX3_advise_80 : decode cX3_advise 80 = .ok (.istore 4, 2) := by decide +kernel
