theorem dX0_init_0 : decode cX0_init 0 = .ok (.aload_n 0, 1) := by decide +kernel
theorem dX0_init_1 : decode cX0_init 1 = .ok (.invokespecial 3, 3) := by decide +kernel
theorem dX0_init_4 : decode cX0_init 4 = .ok (.aload_n 0, 1) := by decide +kernel
theorem dX0_init_5 : decode cX0_init 5 = .ok (.bipush 20, 2) := by decide +kernel
theorem dX0_init_7 : decode cX0_init 7 = .ok (.putfield 9, 3) := by decide +kernel
theorem dX0_init_10 : decode cX0_init 10 = .ok (.aload_n 0, 1) := by decide +kernel
theorem dX0_init_11 : decode cX0_init 11 = .ok (.bipush 60, 2) := by decide +kernel
theorem dX0_init_13 : decode cX0_init 13 = .ok (.putfield 15, 3) := by decide +kernel
theorem dX0_init_16 : decode cX0_init 16 = .ok (.return_, 1) := by decide +kernel
theorem dX0_copyFrom_0 : decode cX0_copyFrom 0 = .ok (.aload_n 0, 1) := by decide +kernel
theorem dX0_copyFrom_1 : decode cX0_copyFrom 1 = .ok (.aload_n 1, 1) := by decide +kernel
theorem dX0_copyFrom_2 : decode cX0_copyFrom 2 = .ok (.getfield 9, 3) := by decide +kernel
theorem dX0_copyFrom_5 : decode cX0_copyFrom 5 = .ok (.putfield 9, 3) := by decide +kernel
theorem dX0_copyFrom_8 : decode cX0_copyFrom 8 = .ok (.aload_n 0, 1) := by decide +kernel
theorem dX0_copyFrom_9 : decode cX0_copyFrom 9 = .ok (.aload_n 1, 1) := by decide +kernel
theorem dX0_copyFrom_10 : decode cX0_copyFrom 10 = .ok (.getfield 15, 3) := by decide +kernel
theorem dX0_copyFrom_13 : decode cX0_copyFrom 13 = .ok (.putfield 15, 3) := by decide +kernel
theorem dX0_copyFrom_16 : decode cX0_copyFrom 16 = .ok (.aload_n 0, 1) := by decide +kernel
theorem dX0_copyFrom_17 : decode cX0_copyFrom 17 = .ok (.aload_n 1, 1) := by decide +kernel
theorem dX0_copyFrom_18 : decode cX0_copyFrom 18 = .ok (.getfield 18, 3) := by decide +kernel
theorem dX0_copyFrom_21 : decode cX0_copyFrom 21 = .ok (.putfield 18, 3) := by decide +kernel
theorem dX0_copyFrom_24 : decode cX0_copyFrom 24 = .ok (.aload_n 0, 1) := by decide +kernel
theorem dX0_copyFrom_25 : decode cX0_copyFrom 25 = .ok (.aload_n 1, 1) := by decide +kernel
theorem dX0_copyFrom_26 : decode cX0_copyFrom 26 = .ok (.getfield 21, 3) := by decide +kernel
theorem dX0_copyFrom_29 : decode cX0_copyFrom 29 = .ok (.putfield 21, 3) := by decide +kernel
theorem dX0_copyFrom_32 : decode cX0_copyFrom 32 = .ok (.aload_n 0, 1) := by decide +kernel
theorem dX0_copyFrom_33 : decode cX0_copyFrom 33 = .ok (.aload_n 1, 1) := by decide +kernel
theorem dX0_copyFrom_34 : decode cX0_copyFrom 34 = .ok (.getfield 24, 3) := by decide +kernel
theorem dX0_copyFrom_37 : decode cX0_copyFrom 37 = .ok (.putfield 24, 3) := by decide +kernel
theorem dX0_copyFrom_40 : decode cX0_copyFrom 40 = .ok (.aload_n 0, 1) := by decide +kernel
theorem dX0_copyFrom_41 : decode cX0_copyFrom 41 = .ok (.aload_n 1, 1) := by decide +kernel
theorem dX0_copyFrom_42 : decode cX0_copyFrom 42 = .ok (.getfield 27, 3) := by decide +kernel
theorem dX0_copyFrom_45 : decode cX0_copyFrom 45 = .ok (.putfield 27, 3) := by decide +kernel
theorem dX0_copyFrom_48 : decode cX0_copyFrom 48 = .ok (.return_, 1) := by decide +kernel
theorem dX0_buyBags_0 : decode cX0_buyBags 0 = .ok (.iconst 0, 1) := by decide +kernel
theorem dX0_buyBags_1 : decode cX0_buyBags 1 = .ok (.istore_n 2, 1) := by decide +kernel
theorem dX0_buyBags_2 : decode cX0_buyBags 2 = .ok (.iload_n 2, 1) := by decide +kernel
theorem dX0_buyBags_3 : decode cX0_buyBags 3 = .ok (.iconst 4, 1) := by decide +kernel
theorem dX0_buyBags_4 : decode cX0_buyBags 4 = .ok (.if_icmp .ge 110, 3) := by decide +kernel
theorem dX0_buyBags_7 : decode cX0_buyBags 7 = .ok (.getstatic 30, 3) := by decide +kernel
theorem dX0_buyBags_10 : decode cX0_buyBags 10 = .ok (.iload_n 2, 1) := by decide +kernel
theorem dX0_buyBags_11 : decode cX0_buyBags 11 = .ok (.iaload, 1) := by decide +kernel
theorem dX0_buyBags_12 : decode cX0_buyBags 12 = .ok (.bipush 100, 2) := by decide +kernel
theorem dX0_buyBags_14 : decode cX0_buyBags 14 = .ok (.aload_n 0, 1) := by decide +kernel
theorem dX0_buyBags_15 : decode cX0_buyBags 15 = .ok (.getfield 9, 3) := by decide +kernel
theorem dX0_buyBags_18 : decode cX0_buyBags 18 = .ok (.isub, 1) := by decide +kernel
theorem dX0_buyBags_19 : decode cX0_buyBags 19 = .ok (.imul, 1) := by decide +kernel
theorem dX0_buyBags_20 : decode cX0_buyBags 20 = .ok (.bipush 100, 2) := by decide +kernel
theorem dX0_buyBags_22 : decode cX0_buyBags 22 = .ok (.idiv, 1) := by decide +kernel
theorem dX0_buyBags_23 : decode cX0_buyBags 23 = .ok (.istore_n 3, 1) := by decide +kernel
theorem dX0_buyBags_24 : decode cX0_buyBags 24 = .ok (.aload_n 1, 1) := by decide +kernel
theorem dX0_buyBags_25 : decode cX0_buyBags 25 = .ok (.getfield 34, 3) := by decide +kernel
theorem dX0_buyBags_28 : decode cX0_buyBags 28 = .ok (.iload_n 2, 1) := by decide +kernel
theorem dX0_buyBags_29 : decode cX0_buyBags 29 = .ok (.iaload, 1) := by decide +kernel
theorem dX0_buyBags_30 : decode cX0_buyBags 30 = .ok (.ifCond .le 78, 3) := by decide +kernel
theorem dX0_buyBags_33 : decode cX0_buyBags 33 = .ok (.aload_n 0, 1) := by decide +kernel
theorem dX0_buyBags_34 : decode cX0_buyBags 34 = .ok (.getfield 15, 3) := by decide +kernel
theorem dX0_buyBags_37 : decode cX0_buyBags 37 = .ok (.iload_n 3, 1) := by decide +kernel
theorem dX0_buyBags_38 : decode cX0_buyBags 38 = .ok (.if_icmp .lt 70, 3) := by decide +kernel
theorem dX0_buyBags_41 : decode cX0_buyBags 41 = .ok (.aload_n 1, 1) := by decide +kernel
theorem dX0_buyBags_42 : decode cX0_buyBags 42 = .ok (.getfield 34, 3) := by decide +kernel
theorem dX0_buyBags_45 : decode cX0_buyBags 45 = .ok (.iload_n 2, 1) := by decide +kernel
theorem dX0_buyBags_46 : decode cX0_buyBags 46 = .ok (.dup2, 1) := by decide +kernel
theorem dX0_buyBags_47 : decode cX0_buyBags 47 = .ok (.iaload, 1) := by decide +kernel
theorem dX0_buyBags_48 : decode cX0_buyBags 48 = .ok (.iconst 1, 1) := by decide +kernel
theorem dX0_buyBags_49 : decode cX0_buyBags 49 = .ok (.isub, 1) := by decide +kernel
theorem dX0_buyBags_50 : decode cX0_buyBags 50 = .ok (.iastore, 1) := by decide +kernel
theorem dX0_buyBags_51 : decode cX0_buyBags 51 = .ok (.aload_n 1, 1) := by decide +kernel
theorem dX0_buyBags_52 : decode cX0_buyBags 52 = .ok (.dup, 1) := by decide +kernel
theorem dX0_buyBags_53 : decode cX0_buyBags 53 = .ok (.getfield 39, 3) := by decide +kernel
theorem dX0_buyBags_56 : decode cX0_buyBags 56 = .ok (.iload_n 3, 1) := by decide +kernel
theorem dX0_buyBags_57 : decode cX0_buyBags 57 = .ok (.iadd, 1) := by decide +kernel
theorem dX0_buyBags_58 : decode cX0_buyBags 58 = .ok (.putfield 39, 3) := by decide +kernel
theorem dX0_buyBags_61 : decode cX0_buyBags 61 = .ok (.aload_n 0, 1) := by decide +kernel
theorem dX0_buyBags_62 : decode cX0_buyBags 62 = .ok (.dup, 1) := by decide +kernel
theorem dX0_buyBags_63 : decode cX0_buyBags 63 = .ok (.getfield 15, 3) := by decide +kernel
theorem dX0_buyBags_66 : decode cX0_buyBags 66 = .ok (.iload_n 3, 1) := by decide +kernel
theorem dX0_buyBags_67 : decode cX0_buyBags 67 = .ok (.isub, 1) := by decide +kernel
theorem dX0_buyBags_68 : decode cX0_buyBags 68 = .ok (.putfield 15, 3) := by decide +kernel
theorem dX0_buyBags_71 : decode cX0_buyBags 71 = .ok (.aload_n 0, 1) := by decide +kernel
theorem dX0_buyBags_72 : decode cX0_buyBags 72 = .ok (.dup, 1) := by decide +kernel
theorem dX0_buyBags_73 : decode cX0_buyBags 73 = .ok (.getfield 21, 3) := by decide +kernel
theorem dX0_buyBags_76 : decode cX0_buyBags 76 = .ok (.iload_n 3, 1) := by decide +kernel
theorem dX0_buyBags_77 : decode cX0_buyBags 77 = .ok (.iadd, 1) := by decide +kernel
theorem dX0_buyBags_78 : decode cX0_buyBags 78 = .ok (.putfield 21, 3) := by decide +kernel
theorem dX0_buyBags_81 : decode cX0_buyBags 81 = .ok (.aload_n 0, 1) := by decide +kernel
theorem dX0_buyBags_82 : decode cX0_buyBags 82 = .ok (.dup, 1) := by decide +kernel
theorem dX0_buyBags_83 : decode cX0_buyBags 83 = .ok (.getfield 18, 3) := by decide +kernel
theorem dX0_buyBags_86 : decode cX0_buyBags 86 = .ok (.iconst 1, 1) := by decide +kernel
theorem dX0_buyBags_87 : decode cX0_buyBags 87 = .ok (.iadd, 1) := by decide +kernel
theorem dX0_buyBags_88 : decode cX0_buyBags 88 = .ok (.putfield 18, 3) := by decide +kernel
theorem dX0_buyBags_91 : decode cX0_buyBags 91 = .ok (.aload_n 0, 1) := by decide +kernel
theorem dX0_buyBags_92 : decode cX0_buyBags 92 = .ok (.dup, 1) := by decide +kernel
theorem dX0_buyBags_93 : decode cX0_buyBags 93 = .ok (.getfield 27, 3) := by decide +kernel
theorem dX0_buyBags_96 : decode cX0_buyBags 96 = .ok (.getstatic 30, 3) := by decide +kernel
theorem dX0_buyBags_99 : decode cX0_buyBags 99 = .ok (.iload_n 2, 1) := by decide +kernel
theorem dX0_buyBags_100 : decode cX0_buyBags 100 = .ok (.iaload, 1) := by decide +kernel
theorem dX0_buyBags_101 : decode cX0_buyBags 101 = .ok (.iadd, 1) := by decide +kernel
theorem dX0_buyBags_102 : decode cX0_buyBags 102 = .ok (.putfield 27, 3) := by decide +kernel
theorem dX0_buyBags_105 : decode cX0_buyBags 105 = .ok (.goto (-81), 3) := by decide +kernel
theorem dX0_buyBags_108 : decode cX0_buyBags 108 = .ok (.iinc 2 1, 3) := by decide +kernel
theorem dX0_buyBags_111 : decode cX0_buyBags 111 = .ok (.goto (-109), 3) := by decide +kernel
theorem dX0_buyBags_114 : decode cX0_buyBags 114 = .ok (.return_, 1) := by decide +kernel
theorem dX0_collectDebt_0 : decode cX0_collectDebt 0 = .ok (.aload_n 1, 1) := by decide +kernel
theorem dX0_collectDebt_1 : decode cX0_collectDebt 1 = .ok (.getfield 40, 3) := by decide +kernel
theorem dX0_collectDebt_4 : decode cX0_collectDebt 4 = .ok (.aload_n 1, 1) := by decide +kernel
theorem dX0_collectDebt_5 : decode cX0_collectDebt 5 = .ok (.getfield 39, 3) := by decide +kernel
theorem dX0_collectDebt_8 : decode cX0_collectDebt 8 = .ok (.invokestatic 43, 3) := by decide +kernel
theorem dX0_collectDebt_11 : decode cX0_collectDebt 11 = .ok (.istore_n 2, 1) := by decide +kernel
theorem dX0_collectDebt_12 : decode cX0_collectDebt 12 = .ok (.aload_n 1, 1) := by decide +kernel
theorem dX0_collectDebt_13 : decode cX0_collectDebt 13 = .ok (.dup, 1) := by decide +kernel
theorem dX0_collectDebt_14 : decode cX0_collectDebt 14 = .ok (.getfield 40, 3) := by decide +kernel
theorem dX0_collectDebt_17 : decode cX0_collectDebt 17 = .ok (.iload_n 2, 1) := by decide +kernel
theorem dX0_collectDebt_18 : decode cX0_collectDebt 18 = .ok (.isub, 1) := by decide +kernel
theorem dX0_collectDebt_19 : decode cX0_collectDebt 19 = .ok (.putfield 40, 3) := by decide +kernel
theorem dX0_collectDebt_22 : decode cX0_collectDebt 22 = .ok (.aload_n 1, 1) := by decide +kernel
theorem dX0_collectDebt_23 : decode cX0_collectDebt 23 = .ok (.dup, 1) := by decide +kernel
theorem dX0_collectDebt_24 : decode cX0_collectDebt 24 = .ok (.getfield 39, 3) := by decide +kernel
theorem dX0_collectDebt_27 : decode cX0_collectDebt 27 = .ok (.iload_n 2, 1) := by decide +kernel
theorem dX0_collectDebt_28 : decode cX0_collectDebt 28 = .ok (.isub, 1) := by decide +kernel
theorem dX0_collectDebt_29 : decode cX0_collectDebt 29 = .ok (.putfield 39, 3) := by decide +kernel
theorem dX0_collectDebt_32 : decode cX0_collectDebt 32 = .ok (.aload_n 0, 1) := by decide +kernel
theorem dX0_collectDebt_33 : decode cX0_collectDebt 33 = .ok (.dup, 1) := by decide +kernel
theorem dX0_collectDebt_34 : decode cX0_collectDebt 34 = .ok (.getfield 15, 3) := by decide +kernel
theorem dX0_collectDebt_37 : decode cX0_collectDebt 37 = .ok (.iload_n 2, 1) := by decide +kernel
theorem dX0_collectDebt_38 : decode cX0_collectDebt 38 = .ok (.iadd, 1) := by decide +kernel
theorem dX0_collectDebt_39 : decode cX0_collectDebt 39 = .ok (.putfield 15, 3) := by decide +kernel
theorem dX0_collectDebt_42 : decode cX0_collectDebt 42 = .ok (.return_, 1) := by decide +kernel
theorem dX0_deliver_0 : decode cX0_deliver 0 = .ok (.aload_n 0, 1) := by decide +kernel
theorem dX0_deliver_1 : decode cX0_deliver 1 = .ok (.dup, 1) := by decide +kernel
theorem dX0_deliver_2 : decode cX0_deliver 2 = .ok (.getfield 15, 3) := by decide +kernel
theorem dX0_deliver_5 : decode cX0_deliver 5 = .ok (.aload_n 0, 1) := by decide +kernel
theorem dX0_deliver_6 : decode cX0_deliver 6 = .ok (.getfield 27, 3) := by decide +kernel
theorem dX0_deliver_9 : decode cX0_deliver 9 = .ok (.iadd, 1) := by decide +kernel
theorem dX0_deliver_10 : decode cX0_deliver 10 = .ok (.putfield 15, 3) := by decide +kernel
theorem dX0_deliver_13 : decode cX0_deliver 13 = .ok (.aload_n 0, 1) := by decide +kernel
theorem dX0_deliver_14 : decode cX0_deliver 14 = .ok (.dup, 1) := by decide +kernel
theorem dX0_deliver_15 : decode cX0_deliver 15 = .ok (.getfield 24, 3) := by decide +kernel
theorem dX0_deliver_18 : decode cX0_deliver 18 = .ok (.aload_n 0, 1) := by decide +kernel
theorem dX0_deliver_19 : decode cX0_deliver 19 = .ok (.getfield 27, 3) := by decide +kernel
theorem dX0_deliver_22 : decode cX0_deliver 22 = .ok (.iadd, 1) := by decide +kernel
theorem dX0_deliver_23 : decode cX0_deliver 23 = .ok (.putfield 24, 3) := by decide +kernel
theorem dX0_deliver_26 : decode cX0_deliver 26 = .ok (.aload_n 0, 1) := by decide +kernel
theorem dX0_deliver_27 : decode cX0_deliver 27 = .ok (.iconst 0, 1) := by decide +kernel
theorem dX0_deliver_28 : decode cX0_deliver 28 = .ok (.putfield 27, 3) := by decide +kernel
theorem dX0_deliver_31 : decode cX0_deliver 31 = .ok (.return_, 1) := by decide +kernel
theorem dX1_init_0 : decode cX1_init 0 = .ok (.aload_n 0, 1) := by decide +kernel
theorem dX1_init_1 : decode cX1_init 1 = .ok (.invokespecial 3, 3) := by decide +kernel
theorem dX1_init_4 : decode cX1_init 4 = .ok (.aload_n 0, 1) := by decide +kernel
theorem dX1_init_5 : decode cX1_init 5 = .ok (.bipush 10, 2) := by decide +kernel
theorem dX1_init_7 : decode cX1_init 7 = .ok (.putfield 9, 3) := by decide +kernel
theorem dX1_init_10 : decode cX1_init 10 = .ok (.aload_n 0, 1) := by decide +kernel
theorem dX1_init_11 : decode cX1_init 11 = .ok (.iconst 5, 1) := by decide +kernel
theorem dX1_init_12 : decode cX1_init 12 = .ok (.putfield 15, 3) := by decide +kernel
theorem dX1_init_15 : decode cX1_init 15 = .ok (.aload_n 0, 1) := by decide +kernel
theorem dX1_init_16 : decode cX1_init 16 = .ok (.iconst 4, 1) := by decide +kernel
theorem dX1_init_17 : decode cX1_init 17 = .ok (.newarray .int, 2) := by decide +kernel
theorem dX1_init_19 : decode cX1_init 19 = .ok (.putfield 18, 3) := by decide +kernel
theorem dX1_init_22 : decode cX1_init 22 = .ok (.aload_n 0, 1) := by decide +kernel
theorem dX1_init_23 : decode cX1_init 23 = .ok (.iconst 4, 1) := by decide +kernel
theorem dX1_init_24 : decode cX1_init 24 = .ok (.newarray .int, 2) := by decide +kernel
theorem dX1_init_26 : decode cX1_init 26 = .ok (.putfield 22, 3) := by decide +kernel
theorem dX1_init_29 : decode cX1_init 29 = .ok (.return_, 1) := by decide +kernel
theorem dX1_begin_0 : decode cX1_begin 0 = .ok (.aload_n 0, 1) := by decide +kernel
theorem dX1_begin_1 : decode cX1_begin 1 = .ok (.iload_n 1, 1) := by decide +kernel
theorem dX1_begin_2 : decode cX1_begin 2 = .ok (.putfield 25, 3) := by decide +kernel
theorem dX1_begin_5 : decode cX1_begin 5 = .ok (.aload_n 0, 1) := by decide +kernel
theorem dX1_begin_6 : decode cX1_begin 6 = .ok (.iload_n 2, 1) := by decide +kernel
theorem dX1_begin_7 : decode cX1_begin 7 = .ok (.putfield 28, 3) := by decide +kernel
theorem dX1_begin_10 : decode cX1_begin 10 = .ok (.aload_n 0, 1) := by decide +kernel
theorem dX1_begin_11 : decode cX1_begin 11 = .ok (.iload_n 3, 1) := by decide +kernel
theorem dX1_begin_12 : decode cX1_begin 12 = .ok (.putfield 31, 3) := by decide +kernel
theorem dX1_begin_15 : decode cX1_begin 15 = .ok (.return_, 1) := by decide +kernel
theorem dX1_copyFrom_0 : decode cX1_copyFrom 0 = .ok (.aload_n 0, 1) := by decide +kernel
theorem dX1_copyFrom_1 : decode cX1_copyFrom 1 = .ok (.aload_n 1, 1) := by decide +kernel
theorem dX1_copyFrom_2 : decode cX1_copyFrom 2 = .ok (.getfield 25, 3) := by decide +kernel
theorem dX1_copyFrom_5 : decode cX1_copyFrom 5 = .ok (.putfield 25, 3) := by decide +kernel
theorem dX1_copyFrom_8 : decode cX1_copyFrom 8 = .ok (.aload_n 0, 1) := by decide +kernel
theorem dX1_copyFrom_9 : decode cX1_copyFrom 9 = .ok (.aload_n 1, 1) := by decide +kernel
theorem dX1_copyFrom_10 : decode cX1_copyFrom 10 = .ok (.getfield 28, 3) := by decide +kernel
theorem dX1_copyFrom_13 : decode cX1_copyFrom 13 = .ok (.putfield 28, 3) := by decide +kernel
theorem dX1_copyFrom_16 : decode cX1_copyFrom 16 = .ok (.aload_n 0, 1) := by decide +kernel
theorem dX1_copyFrom_17 : decode cX1_copyFrom 17 = .ok (.aload_n 1, 1) := by decide +kernel
theorem dX1_copyFrom_18 : decode cX1_copyFrom 18 = .ok (.getfield 31, 3) := by decide +kernel
theorem dX1_copyFrom_21 : decode cX1_copyFrom 21 = .ok (.putfield 31, 3) := by decide +kernel
theorem dX1_copyFrom_24 : decode cX1_copyFrom 24 = .ok (.aload_n 0, 1) := by decide +kernel
theorem dX1_copyFrom_25 : decode cX1_copyFrom 25 = .ok (.aload_n 1, 1) := by decide +kernel
theorem dX1_copyFrom_26 : decode cX1_copyFrom 26 = .ok (.getfield 34, 3) := by decide +kernel
theorem dX1_copyFrom_29 : decode cX1_copyFrom 29 = .ok (.putfield 34, 3) := by decide +kernel
theorem dX1_copyFrom_32 : decode cX1_copyFrom 32 = .ok (.aload_n 0, 1) := by decide +kernel
theorem dX1_copyFrom_33 : decode cX1_copyFrom 33 = .ok (.aload_n 1, 1) := by decide +kernel
theorem dX1_copyFrom_34 : decode cX1_copyFrom 34 = .ok (.getfield 37, 3) := by decide +kernel
theorem dX1_copyFrom_37 : decode cX1_copyFrom 37 = .ok (.putfield 37, 3) := by decide +kernel
theorem dX1_copyFrom_40 : decode cX1_copyFrom 40 = .ok (.aload_n 0, 1) := by decide +kernel
theorem dX1_copyFrom_41 : decode cX1_copyFrom 41 = .ok (.aload_n 1, 1) := by decide +kernel
theorem dX1_copyFrom_42 : decode cX1_copyFrom 42 = .ok (.getfield 40, 3) := by decide +kernel
theorem dX1_copyFrom_45 : decode cX1_copyFrom 45 = .ok (.putfield 40, 3) := by decide +kernel
theorem dX1_copyFrom_48 : decode cX1_copyFrom 48 = .ok (.aload_n 0, 1) := by decide +kernel
theorem dX1_copyFrom_49 : decode cX1_copyFrom 49 = .ok (.aload_n 1, 1) := by decide +kernel
theorem dX1_copyFrom_50 : decode cX1_copyFrom 50 = .ok (.getfield 9, 3) := by decide +kernel
theorem dX1_copyFrom_53 : decode cX1_copyFrom 53 = .ok (.putfield 9, 3) := by decide +kernel
theorem dX1_copyFrom_56 : decode cX1_copyFrom 56 = .ok (.aload_n 0, 1) := by decide +kernel
theorem dX1_copyFrom_57 : decode cX1_copyFrom 57 = .ok (.aload_n 1, 1) := by decide +kernel
theorem dX1_copyFrom_58 : decode cX1_copyFrom 58 = .ok (.getfield 15, 3) := by decide +kernel
theorem dX1_copyFrom_61 : decode cX1_copyFrom 61 = .ok (.putfield 15, 3) := by decide +kernel
theorem dX1_copyFrom_64 : decode cX1_copyFrom 64 = .ok (.aload_n 0, 1) := by decide +kernel
theorem dX1_copyFrom_65 : decode cX1_copyFrom 65 = .ok (.aload_n 1, 1) := by decide +kernel
theorem dX1_copyFrom_66 : decode cX1_copyFrom 66 = .ok (.getfield 43, 3) := by decide +kernel
theorem dX1_copyFrom_69 : decode cX1_copyFrom 69 = .ok (.putfield 43, 3) := by decide +kernel
theorem dX1_copyFrom_72 : decode cX1_copyFrom 72 = .ok (.aload_n 0, 1) := by decide +kernel
theorem dX1_copyFrom_73 : decode cX1_copyFrom 73 = .ok (.aload_n 1, 1) := by decide +kernel
theorem dX1_copyFrom_74 : decode cX1_copyFrom 74 = .ok (.getfield 46, 3) := by decide +kernel
theorem dX1_copyFrom_77 : decode cX1_copyFrom 77 = .ok (.putfield 46, 3) := by decide +kernel
theorem dX1_copyFrom_80 : decode cX1_copyFrom 80 = .ok (.aload_n 0, 1) := by decide +kernel
theorem dX1_copyFrom_81 : decode cX1_copyFrom 81 = .ok (.aload_n 1, 1) := by decide +kernel
theorem dX1_copyFrom_82 : decode cX1_copyFrom 82 = .ok (.getfield 49, 3) := by decide +kernel
theorem dX1_copyFrom_85 : decode cX1_copyFrom 85 = .ok (.putfield 49, 3) := by decide +kernel
theorem dX1_copyFrom_88 : decode cX1_copyFrom 88 = .ok (.aload_n 0, 1) := by decide +kernel
theorem dX1_copyFrom_89 : decode cX1_copyFrom 89 = .ok (.aload_n 1, 1) := by decide +kernel
theorem dX1_copyFrom_90 : decode cX1_copyFrom 90 = .ok (.getfield 52, 3) := by decide +kernel
theorem dX1_copyFrom_93 : decode cX1_copyFrom 93 = .ok (.putfield 52, 3) := by decide +kernel
theorem dX1_copyFrom_96 : decode cX1_copyFrom 96 = .ok (.iconst 0, 1) := by decide +kernel
theorem dX1_copyFrom_97 : decode cX1_copyFrom 97 = .ok (.istore_n 2, 1) := by decide +kernel
theorem dX1_copyFrom_98 : decode cX1_copyFrom 98 = .ok (.iload_n 2, 1) := by decide +kernel
theorem dX1_copyFrom_99 : decode cX1_copyFrom 99 = .ok (.iconst 4, 1) := by decide +kernel
theorem dX1_copyFrom_100 : decode cX1_copyFrom 100 = .ok (.if_icmp .ge 33, 3) := by decide +kernel
theorem dX1_copyFrom_103 : decode cX1_copyFrom 103 = .ok (.aload_n 0, 1) := by decide +kernel
theorem dX1_copyFrom_104 : decode cX1_copyFrom 104 = .ok (.getfield 18, 3) := by decide +kernel
theorem dX1_copyFrom_107 : decode cX1_copyFrom 107 = .ok (.iload_n 2, 1) := by decide +kernel
theorem dX1_copyFrom_108 : decode cX1_copyFrom 108 = .ok (.aload_n 1, 1) := by decide +kernel
theorem dX1_copyFrom_109 : decode cX1_copyFrom 109 = .ok (.getfield 18, 3) := by decide +kernel
theorem dX1_copyFrom_112 : decode cX1_copyFrom 112 = .ok (.iload_n 2, 1) := by decide +kernel
theorem dX1_copyFrom_113 : decode cX1_copyFrom 113 = .ok (.iaload, 1) := by decide +kernel
theorem dX1_copyFrom_114 : decode cX1_copyFrom 114 = .ok (.iastore, 1) := by decide +kernel
theorem dX1_copyFrom_115 : decode cX1_copyFrom 115 = .ok (.aload_n 0, 1) := by decide +kernel
theorem dX1_copyFrom_116 : decode cX1_copyFrom 116 = .ok (.getfield 22, 3) := by decide +kernel
theorem dX1_copyFrom_119 : decode cX1_copyFrom 119 = .ok (.iload_n 2, 1) := by decide +kernel
theorem dX1_copyFrom_120 : decode cX1_copyFrom 120 = .ok (.aload_n 1, 1) := by decide +kernel
theorem dX1_copyFrom_121 : decode cX1_copyFrom 121 = .ok (.getfield 22, 3) := by decide +kernel
theorem dX1_copyFrom_124 : decode cX1_copyFrom 124 = .ok (.iload_n 2, 1) := by decide +kernel
theorem dX1_copyFrom_125 : decode cX1_copyFrom 125 = .ok (.iaload, 1) := by decide +kernel
theorem dX1_copyFrom_126 : decode cX1_copyFrom 126 = .ok (.iastore, 1) := by decide +kernel
theorem dX1_copyFrom_127 : decode cX1_copyFrom 127 = .ok (.iinc 2 1, 3) := by decide +kernel
theorem dX1_copyFrom_130 : decode cX1_copyFrom 130 = .ok (.goto (-32), 3) := by decide +kernel
theorem dX1_copyFrom_133 : decode cX1_copyFrom 133 = .ok (.return_, 1) := by decide +kernel
theorem dX1_workHours_0 : decode cX1_workHours 0 = .ok (.iconst 0, 1) := by decide +kernel
theorem dX1_workHours_1 : decode cX1_workHours 1 = .ok (.istore_n 2, 1) := by decide +kernel
theorem dX1_workHours_2 : decode cX1_workHours 2 = .ok (.iconst 0, 1) := by decide +kernel
theorem dX1_workHours_3 : decode cX1_workHours 3 = .ok (.istore_n 3, 1) := by decide +kernel
theorem dX1_workHours_4 : decode cX1_workHours 4 = .ok (.iload_n 3, 1) := by decide +kernel
theorem dX1_workHours_5 : decode cX1_workHours 5 = .ok (.iload_n 1, 1) := by decide +kernel
theorem dX1_workHours_6 : decode cX1_workHours 6 = .ok (.if_icmp .ge 16, 3) := by decide +kernel
theorem dX1_workHours_9 : decode cX1_workHours 9 = .ok (.iload_n 2, 1) := by decide +kernel
theorem dX1_workHours_10 : decode cX1_workHours 10 = .ok (.aload_n 0, 1) := by decide +kernel
theorem dX1_workHours_11 : decode cX1_workHours 11 = .ok (.invokevirtual 55, 3) := by decide +kernel
theorem dX1_workHours_14 : decode cX1_workHours 14 = .ok (.iadd, 1) := by decide +kernel
theorem dX1_workHours_15 : decode cX1_workHours 15 = .ok (.istore_n 2, 1) := by decide +kernel
theorem dX1_workHours_16 : decode cX1_workHours 16 = .ok (.iinc 3 1, 3) := by decide +kernel
theorem dX1_workHours_19 : decode cX1_workHours 19 = .ok (.goto (-15), 3) := by decide +kernel
theorem dX1_workHours_22 : decode cX1_workHours 22 = .ok (.iload_n 2, 1) := by decide +kernel
theorem dX1_workHours_23 : decode cX1_workHours 23 = .ok (.ireturn, 1) := by decide +kernel
theorem dX1_workHour_0 : decode cX1_workHour 0 = .ok (.aload_n 0, 1) := by decide +kernel
theorem dX1_workHour_1 : decode cX1_workHour 1 = .ok (.invokevirtual 59, 3) := by decide +kernel
theorem dX1_workHour_4 : decode cX1_workHour 4 = .ok (.aload_n 0, 1) := by decide +kernel
theorem dX1_workHour_5 : decode cX1_workHour 5 = .ok (.getfield 40, 3) := by decide +kernel
theorem dX1_workHour_8 : decode cX1_workHour 8 = .ok (.iconst 4, 1) := by decide +kernel
theorem dX1_workHour_9 : decode cX1_workHour 9 = .ok (.if_icmp .ge 5, 3) := by decide +kernel
theorem dX1_workHour_12 : decode cX1_workHour 12 = .ok (.iconst 0, 1) := by decide +kernel
theorem dX1_workHour_13 : decode cX1_workHour 13 = .ok (.ireturn, 1) := by decide +kernel
theorem dX1_workHour_14 : decode cX1_workHour 14 = .ok (.aload_n 0, 1) := by decide +kernel
theorem dX1_workHour_15 : decode cX1_workHour 15 = .ok (.aload_n 0, 1) := by decide +kernel
theorem dX1_workHour_16 : decode cX1_workHour 16 = .ok (.getfield 25, 3) := by decide +kernel
theorem dX1_workHour_19 : decode cX1_workHour 19 = .ok (.aload_n 0, 1) := by decide +kernel
theorem dX1_workHour_20 : decode cX1_workHour 20 = .ok (.getfield 40, 3) := by decide +kernel
theorem dX1_workHour_23 : decode cX1_workHour 23 = .ok (.imul, 1) := by decide +kernel
theorem dX1_workHour_24 : decode cX1_workHour 24 = .ok (.iconst 2, 1) := by decide +kernel
theorem dX1_workHour_25 : decode cX1_workHour 25 = .ok (.imul, 1) := by decide +kernel
theorem dX1_workHour_26 : decode cX1_workHour 26 = .ok (.aload_n 0, 1) := by decide +kernel
theorem dX1_workHour_27 : decode cX1_workHour 27 = .ok (.getfield 28, 3) := by decide +kernel
theorem dX1_workHour_30 : decode cX1_workHour 30 = .ok (.iconst 1, 1) := by decide +kernel
theorem dX1_workHour_31 : decode cX1_workHour 31 = .ok (.iadd, 1) := by decide +kernel
theorem dX1_workHour_32 : decode cX1_workHour 32 = .ok (.idiv, 1) := by decide +kernel
theorem dX1_workHour_33 : decode cX1_workHour 33 = .ok (.invokevirtual 62, 3) := by decide +kernel
theorem dX1_workHour_36 : decode cX1_workHour 36 = .ok (.istore_n 1, 1) := by decide +kernel
theorem dX1_workHour_37 : decode cX1_workHour 37 = .ok (.aload_n 0, 1) := by decide +kernel
theorem dX1_workHour_38 : decode cX1_workHour 38 = .ok (.getfield 40, 3) := by decide +kernel
theorem dX1_workHour_41 : decode cX1_workHour 41 = .ok (.bipush 8, 2) := by decide +kernel
theorem dX1_workHour_43 : decode cX1_workHour 43 = .ok (.if_icmp .lt 10, 3) := by decide +kernel
theorem dX1_workHour_46 : decode cX1_workHour 46 = .ok (.iload_n 1, 1) := by decide +kernel
theorem dX1_workHour_47 : decode cX1_workHour 47 = .ok (.bipush 10, 2) := by decide +kernel
theorem dX1_workHour_49 : decode cX1_workHour 49 = .ok (.idiv, 1) := by decide +kernel
theorem dX1_workHour_50 : decode cX1_workHour 50 = .ok (.goto 4, 3) := by decide +kernel
theorem dX1_workHour_53 : decode cX1_workHour 53 = .ok (.iconst 0, 1) := by decide +kernel
theorem dX1_workHour_54 : decode cX1_workHour 54 = .ok (.istore_n 2, 1) := by decide +kernel
theorem dX1_workHour_55 : decode cX1_workHour 55 = .ok (.aload_n 0, 1) := by decide +kernel
theorem dX1_workHour_56 : decode cX1_workHour 56 = .ok (.dup, 1) := by decide +kernel
theorem dX1_workHour_57 : decode cX1_workHour 57 = .ok (.getfield 49, 3) := by decide +kernel
theorem dX1_workHour_60 : decode cX1_workHour 60 = .ok (.iload_n 2, 1) := by decide +kernel
theorem dX1_workHour_61 : decode cX1_workHour 61 = .ok (.iadd, 1) := by decide +kernel
theorem dX1_workHour_62 : decode cX1_workHour 62 = .ok (.putfield 49, 3) := by decide +kernel
theorem dX1_workHour_65 : decode cX1_workHour 65 = .ok (.aload_n 0, 1) := by decide +kernel
theorem dX1_workHour_66 : decode cX1_workHour 66 = .ok (.iload_n 1, 1) := by decide +kernel
theorem dX1_workHour_67 : decode cX1_workHour 67 = .ok (.iload_n 2, 1) := by decide +kernel
theorem dX1_workHour_68 : decode cX1_workHour 68 = .ok (.isub, 1) := by decide +kernel
theorem dX1_workHour_69 : decode cX1_workHour 69 = .ok (.invokevirtual 66, 3) := by decide +kernel
theorem dX1_workHour_72 : decode cX1_workHour 72 = .ok (.iload_n 1, 1) := by decide +kernel
theorem dX1_workHour_73 : decode cX1_workHour 73 = .ok (.iload_n 2, 1) := by decide +kernel
theorem dX1_workHour_74 : decode cX1_workHour 74 = .ok (.isub, 1) := by decide +kernel
theorem dX1_workHour_75 : decode cX1_workHour 75 = .ok (.ireturn, 1) := by decide +kernel
theorem dX1_tendFire_0 : decode cX1_tendFire 0 = .ok (.aload_n 0, 1) := by decide +kernel
theorem dX1_tendFire_1 : decode cX1_tendFire 1 = .ok (.getfield 9, 3) := by decide +kernel
theorem dX1_tendFire_4 : decode cX1_tendFire 4 = .ok (.ifCond .le 31, 3) := by decide +kernel
theorem dX1_tendFire_7 : decode cX1_tendFire 7 = .ok (.aload_n 0, 1) := by decide +kernel
theorem dX1_tendFire_8 : decode cX1_tendFire 8 = .ok (.dup, 1) := by decide +kernel
theorem dX1_tendFire_9 : decode cX1_tendFire 9 = .ok (.getfield 9, 3) := by decide +kernel
theorem dX1_tendFire_12 : decode cX1_tendFire 12 = .ok (.iconst 1, 1) := by decide +kernel
theorem dX1_tendFire_13 : decode cX1_tendFire 13 = .ok (.isub, 1) := by decide +kernel
theorem dX1_tendFire_14 : decode cX1_tendFire 14 = .ok (.putfield 9, 3) := by decide +kernel
theorem dX1_tendFire_17 : decode cX1_tendFire 17 = .ok (.aload_n 0, 1) := by decide +kernel
theorem dX1_tendFire_18 : decode cX1_tendFire 18 = .ok (.aload_n 0, 1) := by decide +kernel
theorem dX1_tendFire_19 : decode cX1_tendFire 19 = .ok (.getfield 40, 3) := by decide +kernel
theorem dX1_tendFire_22 : decode cX1_tendFire 22 = .ok (.iconst 2, 1) := by decide +kernel
theorem dX1_tendFire_23 : decode cX1_tendFire 23 = .ok (.iadd, 1) := by decide +kernel
theorem dX1_tendFire_24 : decode cX1_tendFire 24 = .ok (.bipush 9, 2) := by decide +kernel
theorem dX1_tendFire_26 : decode cX1_tendFire 26 = .ok (.invokestatic 70, 3) := by decide +kernel
theorem dX1_tendFire_29 : decode cX1_tendFire 29 = .ok (.putfield 40, 3) := by decide +kernel
theorem dX1_tendFire_32 : decode cX1_tendFire 32 = .ok (.goto 17, 3) := by decide +kernel
theorem dX1_tendFire_35 : decode cX1_tendFire 35 = .ok (.aload_n 0, 1) := by decide +kernel
theorem dX1_tendFire_36 : decode cX1_tendFire 36 = .ok (.aload_n 0, 1) := by decide +kernel
theorem dX1_tendFire_37 : decode cX1_tendFire 37 = .ok (.getfield 40, 3) := by decide +kernel
theorem dX1_tendFire_40 : decode cX1_tendFire 40 = .ok (.iconst 3, 1) := by decide +kernel
theorem dX1_tendFire_41 : decode cX1_tendFire 41 = .ok (.isub, 1) := by decide +kernel
theorem dX1_tendFire_42 : decode cX1_tendFire 42 = .ok (.iconst 0, 1) := by decide +kernel
theorem dX1_tendFire_43 : decode cX1_tendFire 43 = .ok (.invokestatic 76, 3) := by decide +kernel
theorem dX1_tendFire_46 : decode cX1_tendFire 46 = .ok (.putfield 40, 3) := by decide +kernel
theorem dX1_tendFire_49 : decode cX1_tendFire 49 = .ok (.return_, 1) := by decide +kernel
theorem dX1_head_0 : decode cX1_head 0 = .ok (.aload_n 0, 1) := by decide +kernel
theorem dX1_head_1 : decode cX1_head 1 = .ok (.iload_n 1, 1) := by decide +kernel
theorem dX1_head_2 : decode cX1_head 2 = .ok (.invokevirtual 79, 3) := by decide +kernel
theorem dX1_head_5 : decode cX1_head 5 = .ok (.istore_n 2, 1) := by decide +kernel
theorem dX1_head_6 : decode cX1_head 6 = .ok (.iload_n 2, 1) := by decide +kernel
theorem dX1_head_7 : decode cX1_head 7 = .ok (.iload_n 1, 1) := by decide +kernel
theorem dX1_head_8 : decode cX1_head 8 = .ok (.if_icmp .ge 53, 3) := by decide +kernel
theorem dX1_head_11 : decode cX1_head 11 = .ok (.aload_n 0, 1) := by decide +kernel
theorem dX1_head_12 : decode cX1_head 12 = .ok (.getfield 34, 3) := by decide +kernel
theorem dX1_head_15 : decode cX1_head 15 = .ok (.ifCond .le 46, 3) := by decide +kernel
theorem dX1_head_18 : decode cX1_head 18 = .ok (.aload_n 0, 1) := by decide +kernel
theorem dX1_head_19 : decode cX1_head 19 = .ok (.dup, 1) := by decide +kernel
theorem dX1_head_20 : decode cX1_head 20 = .ok (.getfield 34, 3) := by decide +kernel
theorem dX1_head_23 : decode cX1_head 23 = .ok (.iconst 1, 1) := by decide +kernel
theorem dX1_head_24 : decode cX1_head 24 = .ok (.isub, 1) := by decide +kernel
theorem dX1_head_25 : decode cX1_head 25 = .ok (.putfield 34, 3) := by decide +kernel
theorem dX1_head_28 : decode cX1_head 28 = .ok (.aload_n 0, 1) := by decide +kernel
theorem dX1_head_29 : decode cX1_head 29 = .ok (.dup, 1) := by decide +kernel
theorem dX1_head_30 : decode cX1_head 30 = .ok (.getfield 46, 3) := by decide +kernel
theorem dX1_head_33 : decode cX1_head 33 = .ok (.aload_n 0, 1) := by decide +kernel
theorem dX1_head_34 : decode cX1_head 34 = .ok (.getfield 37, 3) := by decide +kernel
theorem dX1_head_37 : decode cX1_head 37 = .ok (.iadd, 1) := by decide +kernel
theorem dX1_head_38 : decode cX1_head 38 = .ok (.putfield 46, 3) := by decide +kernel
theorem dX1_head_41 : decode cX1_head 41 = .ok (.aload_n 0, 1) := by decide +kernel
theorem dX1_head_42 : decode cX1_head 42 = .ok (.sipush 240, 3) := by decide +kernel
theorem dX1_head_45 : decode cX1_head 45 = .ok (.putfield 37, 3) := by decide +kernel
theorem dX1_head_48 : decode cX1_head 48 = .ok (.iload_n 2, 1) := by decide +kernel
theorem dX1_head_49 : decode cX1_head 49 = .ok (.aload_n 0, 1) := by decide +kernel
theorem dX1_head_50 : decode cX1_head 50 = .ok (.iload_n 1, 1) := by decide +kernel
theorem dX1_head_51 : decode cX1_head 51 = .ok (.iload_n 2, 1) := by decide +kernel
theorem dX1_head_52 : decode cX1_head 52 = .ok (.isub, 1) := by decide +kernel
theorem dX1_head_53 : decode cX1_head 53 = .ok (.invokevirtual 79, 3) := by decide +kernel
theorem dX1_head_56 : decode cX1_head 56 = .ok (.iadd, 1) := by decide +kernel
theorem dX1_head_57 : decode cX1_head 57 = .ok (.istore_n 2, 1) := by decide +kernel
theorem dX1_head_58 : decode cX1_head 58 = .ok (.goto (-52), 3) := by decide +kernel
theorem dX1_head_61 : decode cX1_head 61 = .ok (.iload_n 2, 1) := by decide +kernel
theorem dX1_head_62 : decode cX1_head 62 = .ok (.ireturn, 1) := by decide +kernel
theorem dX1_headFromHand_0 : decode cX1_headFromHand 0 = .ok (.iload_n 1, 1) := by decide +kernel
theorem dX1_headFromHand_1 : decode cX1_headFromHand 1 = .ok (.aload_n 0, 1) := by decide +kernel
theorem dX1_headFromHand_2 : decode cX1_headFromHand 2 = .ok (.getfield 37, 3) := by decide +kernel
theorem dX1_headFromHand_5 : decode cX1_headFromHand 5 = .ok (.getstatic 82, 3) := by decide +kernel
theorem dX1_headFromHand_8 : decode cX1_headFromHand 8 = .ok (.aload_n 0, 1) := by decide +kernel
theorem dX1_headFromHand_9 : decode cX1_headFromHand 9 = .ok (.getfield 28, 3) := by decide +kernel
theorem dX1_headFromHand_12 : decode cX1_headFromHand 12 = .ok (.iaload, 1) := by decide +kernel
theorem dX1_headFromHand_13 : decode cX1_headFromHand 13 = .ok (.idiv, 1) := by decide +kernel
theorem dX1_headFromHand_14 : decode cX1_headFromHand 14 = .ok (.invokestatic 70, 3) := by decide +kernel
theorem dX1_headFromHand_17 : decode cX1_headFromHand 17 = .ok (.istore_n 2, 1) := by decide +kernel
theorem dX1_headFromHand_18 : decode cX1_headFromHand 18 = .ok (.aload_n 0, 1) := by decide +kernel
theorem dX1_headFromHand_19 : decode cX1_headFromHand 19 = .ok (.dup, 1) := by decide +kernel
theorem dX1_headFromHand_20 : decode cX1_headFromHand 20 = .ok (.getfield 37, 3) := by decide +kernel
theorem dX1_headFromHand_23 : decode cX1_headFromHand 23 = .ok (.iload_n 2, 1) := by decide +kernel
theorem dX1_headFromHand_24 : decode cX1_headFromHand 24 = .ok (.getstatic 82, 3) := by decide +kernel
theorem dX1_headFromHand_27 : decode cX1_headFromHand 27 = .ok (.aload_n 0, 1) := by decide +kernel
theorem dX1_headFromHand_28 : decode cX1_headFromHand 28 = .ok (.getfield 28, 3) := by decide +kernel
theorem dX1_headFromHand_31 : decode cX1_headFromHand 31 = .ok (.iaload, 1) := by decide +kernel
theorem dX1_headFromHand_32 : decode cX1_headFromHand 32 = .ok (.imul, 1) := by decide +kernel
theorem dX1_headFromHand_33 : decode cX1_headFromHand 33 = .ok (.isub, 1) := by decide +kernel
theorem dX1_headFromHand_34 : decode cX1_headFromHand 34 = .ok (.putfield 37, 3) := by decide +kernel
theorem dX1_headFromHand_37 : decode cX1_headFromHand 37 = .ok (.iload_n 2, 1) := by decide +kernel
theorem dX1_headFromHand_38 : decode cX1_headFromHand 38 = .ok (.ireturn, 1) := by decide +kernel
theorem dX1_store_0 : decode cX1_store 0 = .ok (.aload_n 0, 1) := by decide +kernel
theorem dX1_store_1 : decode cX1_store 1 = .ok (.dup, 1) := by decide +kernel
theorem dX1_store_2 : decode cX1_store 2 = .ok (.getfield 52, 3) := by decide +kernel
theorem dX1_store_5 : decode cX1_store 5 = .ok (.iload_n 1, 1) := by decide +kernel
