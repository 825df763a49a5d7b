/-! what the instructions are, by program -/
theorem dX4_make_35 : decode cX4_make 35 = .ok (.iconst 1, 1) := by decide +kernel
theorem dX4_make_36 : decode cX4_make 36 = .ok (.invokevirtual 83, 3) := by decide +kernel
theorem dX4_make_39 : decode cX4_make 39 = .ok (.ireturn, 1) := by decide +kernel
theorem dX4_change_0 : decode cX4_change 0 = .ok (.aload_n 0, 1) := by decide +kernel
theorem dX4_change_1 : decode cX4_change 1 = .ok (.iconst 0, 1) := by decide +kernel
theorem dX4_change_2 : decode cX4_change 2 = .ok (.putfield 1, 3) := by decide +kernel
theorem dX4_change_5 : decode cX4_change 5 = .ok (.aload_n 0, 1) := by decide +kernel
theorem dX4_change_6 : decode cX4_change 6 = .ok (.iload_n 1, 1) := by decide +kernel
theorem dX4_change_7 : decode cX4_change 7 = .ok (.invokevirtual 87, 3) := by decide +kernel
theorem dX4_change_10 : decode cX4_change 10 = .ok (.ifCond .eq 10, 3) := by decide +kernel
theorem dX4_change_13 : decode cX4_change 13 = .ok (.iload_n 2, 1) := by decide +kernel
theorem dX4_change_14 : decode cX4_change 14 = .ok (.invokestatic 79, 3) := by decide +kernel
theorem dX4_change_17 : decode cX4_change 17 = .ok (.ifCond .ne 9, 3) := by decide +kernel
theorem dX4_change_20 : decode cX4_change 20 = .ok (.aload_n 0, 1) := by decide +kernel
theorem dX4_change_21 : decode cX4_change 21 = .ok (.iconst 1, 1) := by decide +kernel
theorem dX4_change_22 : decode cX4_change 22 = .ok (.invokevirtual 83, 3) := by decide +kernel
theorem dX4_change_25 : decode cX4_change 25 = .ok (.ireturn, 1) := by decide +kernel
theorem dX4_change_26 : decode cX4_change 26 = .ok (.aload_n 0, 1) := by decide +kernel
theorem dX4_change_27 : decode cX4_change 27 = .ok (.getfield 13, 3) := by decide +kernel
theorem dX4_change_30 : decode cX4_change 30 = .ok (.bipush 20, 2) := by decide +kernel
theorem dX4_change_32 : decode cX4_change 32 = .ok (.iload_n 1, 1) := by decide +kernel
theorem dX4_change_33 : decode cX4_change 33 = .ok (.imul, 1) := by decide +kernel
theorem dX4_change_34 : decode cX4_change 34 = .ok (.bipush 8, 2) := by decide +kernel
theorem dX4_change_36 : decode cX4_change 36 = .ok (.iadd, 1) := by decide +kernel
theorem dX4_change_37 : decode cX4_change 37 = .ok (.iaload, 1) := by decide +kernel
theorem dX4_change_38 : decode cX4_change 38 = .ok (.ifCond .le 11, 3) := by decide +kernel
theorem dX4_change_41 : decode cX4_change 41 = .ok (.aload_n 0, 1) := by decide +kernel
theorem dX4_change_42 : decode cX4_change 42 = .ok (.iconst 2, 1) := by decide +kernel
theorem dX4_change_43 : decode cX4_change 43 = .ok (.invokevirtual 83, 3) := by decide +kernel
theorem dX4_change_46 : decode cX4_change 46 = .ok (.goto 14, 3) := by decide +kernel
theorem dX4_change_49 : decode cX4_change 49 = .ok (.aload_n 0, 1) := by decide +kernel
theorem dX4_change_50 : decode cX4_change 50 = .ok (.bipush 20, 2) := by decide +kernel
theorem dX4_change_52 : decode cX4_change 52 = .ok (.iload_n 1, 1) := by decide +kernel
theorem dX4_change_53 : decode cX4_change 53 = .ok (.imul, 1) := by decide +kernel
theorem dX4_change_54 : decode cX4_change 54 = .ok (.iconst 2, 1) := by decide +kernel
theorem dX4_change_55 : decode cX4_change 55 = .ok (.iadd, 1) := by decide +kernel
theorem dX4_change_56 : decode cX4_change 56 = .ok (.iload_n 2, 1) := by decide +kernel
theorem dX4_change_57 : decode cX4_change 57 = .ok (.invokevirtual 90, 3) := by decide +kernel
theorem dX4_change_60 : decode cX4_change 60 = .ok (.ireturn, 1) := by decide +kernel
theorem dX4_told_0 : decode cX4_told 0 = .ok (.aload_n 0, 1) := by decide +kernel
theorem dX4_told_1 : decode cX4_told 1 = .ok (.iconst 0, 1) := by decide +kernel
theorem dX4_told_2 : decode cX4_told 2 = .ok (.putfield 1, 3) := by decide +kernel
theorem dX4_told_5 : decode cX4_told 5 = .ok (.aload_n 0, 1) := by decide +kernel
theorem dX4_told_6 : decode cX4_told 6 = .ok (.iload_n 1, 1) := by decide +kernel
theorem dX4_told_7 : decode cX4_told 7 = .ok (.invokevirtual 87, 3) := by decide +kernel
theorem dX4_told_10 : decode cX4_told 10 = .ok (.ifCond .eq 27, 3) := by decide +kernel
theorem dX4_told_13 : decode cX4_told 13 = .ok (.iload_n 2, 1) := by decide +kernel
theorem dX4_told_14 : decode cX4_told 14 = .ok (.iconst 0, 1) := by decide +kernel
theorem dX4_told_15 : decode cX4_told 15 = .ok (.bipush 11, 2) := by decide +kernel
theorem dX4_told_17 : decode cX4_told 17 = .ok (.invokestatic 32, 3) := by decide +kernel
theorem dX4_told_20 : decode cX4_told 20 = .ok (.ifCond .eq 17, 3) := by decide +kernel
theorem dX4_told_23 : decode cX4_told 23 = .ok (.aload_n 0, 1) := by decide +kernel
theorem dX4_told_24 : decode cX4_told 24 = .ok (.getfield 13, 3) := by decide +kernel
theorem dX4_told_27 : decode cX4_told 27 = .ok (.bipush 20, 2) := by decide +kernel
theorem dX4_told_29 : decode cX4_told 29 = .ok (.iload_n 1, 1) := by decide +kernel
theorem dX4_told_30 : decode cX4_told 30 = .ok (.imul, 1) := by decide +kernel
theorem dX4_told_31 : decode cX4_told 31 = .ok (.iload_n 2, 1) := by decide +kernel
theorem dX4_told_32 : decode cX4_told 32 = .ok (.iadd, 1) := by decide +kernel
theorem dX4_told_33 : decode cX4_told 33 = .ok (.iaload, 1) := by decide +kernel
theorem dX4_told_34 : decode cX4_told 34 = .ok (.goto 8, 3) := by decide +kernel
theorem dX4_told_37 : decode cX4_told 37 = .ok (.aload_n 0, 1) := by decide +kernel
theorem dX4_told_38 : decode cX4_told 38 = .ok (.iconst 1, 1) := by decide +kernel
theorem dX4_told_39 : decode cX4_told 39 = .ok (.invokevirtual 83, 3) := by decide +kernel
theorem dX4_told_42 : decode cX4_told 42 = .ok (.ireturn, 1) := by decide +kernel
theorem dX4_nails_0 : decode cX4_nails 0 = .ok (.aload_n 0, 1) := by decide +kernel
theorem dX4_nails_1 : decode cX4_nails 1 = .ok (.iconst 0, 1) := by decide +kernel
theorem dX4_nails_2 : decode cX4_nails 2 = .ok (.putfield 1, 3) := by decide +kernel
theorem dX4_nails_5 : decode cX4_nails 5 = .ok (.aload_n 0, 1) := by decide +kernel
theorem dX4_nails_6 : decode cX4_nails 6 = .ok (.iload_n 1, 1) := by decide +kernel
theorem dX4_nails_7 : decode cX4_nails 7 = .ok (.invokevirtual 87, 3) := by decide +kernel
theorem dX4_nails_10 : decode cX4_nails 10 = .ok (.ifCond .eq 40, 3) := by decide +kernel
theorem dX4_nails_13 : decode cX4_nails 13 = .ok (.iload_n 2, 1) := by decide +kernel
theorem dX4_nails_14 : decode cX4_nails 14 = .ok (.invokestatic 79, 3) := by decide +kernel
theorem dX4_nails_17 : decode cX4_nails 17 = .ok (.ifCond .eq 33, 3) := by decide +kernel
theorem dX4_nails_20 : decode cX4_nails 20 = .ok (.iload_n 3, 1) := by decide +kernel
theorem dX4_nails_21 : decode cX4_nails 21 = .ok (.iconst 0, 1) := by decide +kernel
theorem dX4_nails_22 : decode cX4_nails 22 = .ok (.iconst 1, 1) := by decide +kernel
theorem dX4_nails_23 : decode cX4_nails 23 = .ok (.invokestatic 32, 3) := by decide +kernel
theorem dX4_nails_26 : decode cX4_nails 26 = .ok (.ifCond .eq 24, 3) := by decide +kernel
theorem dX4_nails_29 : decode cX4_nails 29 = .ok (.aload_n 0, 1) := by decide +kernel
theorem dX4_nails_30 : decode cX4_nails 30 = .ok (.getfield 13, 3) := by decide +kernel
theorem dX4_nails_33 : decode cX4_nails 33 = .ok (.bipush 20, 2) := by decide +kernel
theorem dX4_nails_35 : decode cX4_nails 35 = .ok (.iload_n 1, 1) := by decide +kernel
theorem dX4_nails_36 : decode cX4_nails 36 = .ok (.imul, 1) := by decide +kernel
theorem dX4_nails_37 : decode cX4_nails 37 = .ok (.bipush 12, 2) := by decide +kernel
theorem dX4_nails_39 : decode cX4_nails 39 = .ok (.iadd, 1) := by decide +kernel
theorem dX4_nails_40 : decode cX4_nails 40 = .ok (.iconst 4, 1) := by decide +kernel
theorem dX4_nails_41 : decode cX4_nails 41 = .ok (.iload_n 3, 1) := by decide +kernel
theorem dX4_nails_42 : decode cX4_nails 42 = .ok (.imul, 1) := by decide +kernel
theorem dX4_nails_43 : decode cX4_nails 43 = .ok (.iadd, 1) := by decide +kernel
theorem dX4_nails_44 : decode cX4_nails 44 = .ok (.iload_n 2, 1) := by decide +kernel
theorem dX4_nails_45 : decode cX4_nails 45 = .ok (.iadd, 1) := by decide +kernel
theorem dX4_nails_46 : decode cX4_nails 46 = .ok (.iaload, 1) := by decide +kernel
theorem dX4_nails_47 : decode cX4_nails 47 = .ok (.goto 8, 3) := by decide +kernel
theorem dX4_nails_50 : decode cX4_nails 50 = .ok (.aload_n 0, 1) := by decide +kernel
theorem dX4_nails_51 : decode cX4_nails 51 = .ok (.iconst 1, 1) := by decide +kernel
theorem dX4_nails_52 : decode cX4_nails 52 = .ok (.invokevirtual 83, 3) := by decide +kernel
theorem dX4_nails_55 : decode cX4_nails 55 = .ok (.ireturn, 1) := by decide +kernel
theorem dX4_keep_0 : decode cX4_keep 0 = .ok (.aload_n 0, 1) := by decide +kernel
theorem dX4_keep_1 : decode cX4_keep 1 = .ok (.iconst 0, 1) := by decide +kernel
theorem dX4_keep_2 : decode cX4_keep 2 = .ok (.putfield 1, 3) := by decide +kernel
theorem dX4_keep_5 : decode cX4_keep 5 = .ok (.iload_n 1, 1) := by decide +kernel
theorem dX4_keep_6 : decode cX4_keep 6 = .ok (.invokestatic 79, 3) := by decide +kernel
theorem dX4_keep_9 : decode cX4_keep 9 = .ok (.ifCond .ne 9, 3) := by decide +kernel
theorem dX4_keep_12 : decode cX4_keep 12 = .ok (.aload_n 0, 1) := by decide +kernel
theorem dX4_keep_13 : decode cX4_keep 13 = .ok (.iconst 1, 1) := by decide +kernel
theorem dX4_keep_14 : decode cX4_keep 14 = .ok (.invokevirtual 83, 3) := by decide +kernel
theorem dX4_keep_17 : decode cX4_keep 17 = .ok (.ireturn, 1) := by decide +kernel
theorem dX4_keep_18 : decode cX4_keep 18 = .ok (.iload_n 2, 1) := by decide +kernel
theorem dX4_keep_19 : decode cX4_keep 19 = .ok (.iconst 0, 1) := by decide +kernel
theorem dX4_keep_20 : decode cX4_keep 20 = .ok (.bipush 60, 2) := by decide +kernel
theorem dX4_keep_22 : decode cX4_keep 22 = .ok (.invokestatic 32, 3) := by decide +kernel
theorem dX4_keep_25 : decode cX4_keep 25 = .ok (.ifCond .ne 9, 3) := by decide +kernel
theorem dX4_keep_28 : decode cX4_keep 28 = .ok (.aload_n 0, 1) := by decide +kernel
theorem dX4_keep_29 : decode cX4_keep 29 = .ok (.iconst 2, 1) := by decide +kernel
theorem dX4_keep_30 : decode cX4_keep 30 = .ok (.invokevirtual 83, 3) := by decide +kernel
theorem dX4_keep_33 : decode cX4_keep 33 = .ok (.ireturn, 1) := by decide +kernel
theorem dX4_keep_34 : decode cX4_keep 34 = .ok (.aload_n 0, 1) := by decide +kernel
theorem dX4_keep_35 : decode cX4_keep 35 = .ok (.getfield 17, 3) := by decide +kernel
theorem dX4_keep_38 : decode cX4_keep 38 = .ok (.iconst 5, 1) := by decide +kernel
theorem dX4_keep_39 : decode cX4_keep 39 = .ok (.iload_n 1, 1) := by decide +kernel
theorem dX4_keep_40 : decode cX4_keep 40 = .ok (.imul, 1) := by decide +kernel
theorem dX4_keep_41 : decode cX4_keep 41 = .ok (.iconst 0, 1) := by decide +kernel
theorem dX4_keep_42 : decode cX4_keep 42 = .ok (.iadd, 1) := by decide +kernel
theorem dX4_keep_43 : decode cX4_keep 43 = .ok (.iaload, 1) := by decide +kernel
theorem dX4_keep_44 : decode cX4_keep 44 = .ok (.istore_n 3, 1) := by decide +kernel
theorem dX4_keep_45 : decode cX4_keep 45 = .ok (.aload_n 0, 1) := by decide +kernel
theorem dX4_keep_46 : decode cX4_keep 46 = .ok (.getfield 17, 3) := by decide +kernel
theorem dX4_keep_49 : decode cX4_keep 49 = .ok (.iconst 5, 1) := by decide +kernel
theorem dX4_keep_50 : decode cX4_keep 50 = .ok (.iload_n 1, 1) := by decide +kernel
theorem dX4_keep_51 : decode cX4_keep 51 = .ok (.imul, 1) := by decide +kernel
theorem dX4_keep_52 : decode cX4_keep 52 = .ok (.iconst 0, 1) := by decide +kernel
theorem dX4_keep_53 : decode cX4_keep 53 = .ok (.iadd, 1) := by decide +kernel
theorem dX4_keep_54 : decode cX4_keep 54 = .ok (.iload_n 2, 1) := by decide +kernel
theorem dX4_keep_55 : decode cX4_keep 55 = .ok (.iastore, 1) := by decide +kernel
theorem dX4_keep_56 : decode cX4_keep 56 = .ok (.iload_n 3, 1) := by decide +kernel
theorem dX4_keep_57 : decode cX4_keep 57 = .ok (.ireturn, 1) := by decide +kernel
theorem dX4_nailersOf_0 : decode cX4_nailersOf 0 = .ok (.iconst 0, 1) := by decide +kernel
theorem dX4_nailersOf_1 : decode cX4_nailersOf 1 = .ok (.istore_n 2, 1) := by decide +kernel
theorem dX4_nailersOf_2 : decode cX4_nailersOf 2 = .ok (.iconst 0, 1) := by decide +kernel
theorem dX4_nailersOf_3 : decode cX4_nailersOf 3 = .ok (.istore_n 3, 1) := by decide +kernel
theorem dX4_nailersOf_4 : decode cX4_nailersOf 4 = .ok (.iload_n 3, 1) := by decide +kernel
theorem dX4_nailersOf_5 : decode cX4_nailersOf 5 = .ok (.aload_n 0, 1) := by decide +kernel
theorem dX4_nailersOf_6 : decode cX4_nailersOf 6 = .ok (.getfield 29, 3) := by decide +kernel
theorem dX4_nailersOf_9 : decode cX4_nailersOf 9 = .ok (.if_icmp .ge 32, 3) := by decide +kernel
theorem dX4_nailersOf_12 : decode cX4_nailersOf 12 = .ok (.iload_n 2, 1) := by decide +kernel
theorem dX4_nailersOf_13 : decode cX4_nailersOf 13 = .ok (.aload_n 0, 1) := by decide +kernel
theorem dX4_nailersOf_14 : decode cX4_nailersOf 14 = .ok (.getfield 13, 3) := by decide +kernel
theorem dX4_nailersOf_17 : decode cX4_nailersOf 17 = .ok (.bipush 20, 2) := by decide +kernel
theorem dX4_nailersOf_19 : decode cX4_nailersOf 19 = .ok (.iload_n 3, 1) := by decide +kernel
theorem dX4_nailersOf_20 : decode cX4_nailersOf 20 = .ok (.imul, 1) := by decide +kernel
theorem dX4_nailersOf_21 : decode cX4_nailersOf 21 = .ok (.iconst 2, 1) := by decide +kernel
theorem dX4_nailersOf_22 : decode cX4_nailersOf 22 = .ok (.iadd, 1) := by decide +kernel
theorem dX4_nailersOf_23 : decode cX4_nailersOf 23 = .ok (.iaload, 1) := by decide +kernel
theorem dX4_nailersOf_24 : decode cX4_nailersOf 24 = .ok (.iload_n 1, 1) := by decide +kernel
theorem dX4_nailersOf_25 : decode cX4_nailersOf 25 = .ok (.if_icmp .ne 7, 3) := by decide +kernel
theorem dX4_nailersOf_28 : decode cX4_nailersOf 28 = .ok (.iconst 1, 1) := by decide +kernel
theorem dX4_nailersOf_29 : decode cX4_nailersOf 29 = .ok (.goto 4, 3) := by decide +kernel
theorem dX4_nailersOf_32 : decode cX4_nailersOf 32 = .ok (.iconst 0, 1) := by decide +kernel
theorem dX4_nailersOf_33 : decode cX4_nailersOf 33 = .ok (.iadd, 1) := by decide +kernel
theorem dX4_nailersOf_34 : decode cX4_nailersOf 34 = .ok (.istore_n 2, 1) := by decide +kernel
theorem dX4_nailersOf_35 : decode cX4_nailersOf 35 = .ok (.iinc 3 1, 3) := by decide +kernel
theorem dX4_nailersOf_38 : decode cX4_nailersOf 38 = .ok (.goto (-34), 3) := by decide +kernel
theorem dX4_nailersOf_41 : decode cX4_nailersOf 41 = .ok (.iload_n 2, 1) := by decide +kernel
theorem dX4_nailersOf_42 : decode cX4_nailersOf 42 = .ok (.ireturn, 1) := by decide +kernel
theorem dX4_foggerTold_0 : decode cX4_foggerTold 0 = .ok (.iconst 5, 1) := by decide +kernel
theorem dX4_foggerTold_1 : decode cX4_foggerTold 1 = .ok (.iload_n 1, 1) := by decide +kernel
theorem dX4_foggerTold_2 : decode cX4_foggerTold 2 = .ok (.imul, 1) := by decide +kernel
theorem dX4_foggerTold_3 : decode cX4_foggerTold 3 = .ok (.istore_n 3, 1) := by decide +kernel
theorem dX4_foggerTold_4 : decode cX4_foggerTold 4 = .ok (.bipush 6, 2) := by decide +kernel
theorem dX4_foggerTold_6 : decode cX4_foggerTold 6 = .ok (.newarray .int, 2) := by decide +kernel
theorem dX4_foggerTold_8 : decode cX4_foggerTold 8 = .ok (.dup, 1) := by decide +kernel
theorem dX4_foggerTold_9 : decode cX4_foggerTold 9 = .ok (.iconst 0, 1) := by decide +kernel
theorem dX4_foggerTold_10 : decode cX4_foggerTold 10 = .ok (.aload_n 0, 1) := by decide +kernel
theorem dX4_foggerTold_11 : decode cX4_foggerTold 11 = .ok (.getfield 17, 3) := by decide +kernel
theorem dX4_foggerTold_14 : decode cX4_foggerTold 14 = .ok (.iload_n 3, 1) := by decide +kernel
theorem dX4_foggerTold_15 : decode cX4_foggerTold 15 = .ok (.iconst 0, 1) := by decide +kernel
theorem dX4_foggerTold_16 : decode cX4_foggerTold 16 = .ok (.iadd, 1) := by decide +kernel
theorem dX4_foggerTold_17 : decode cX4_foggerTold 17 = .ok (.iaload, 1) := by decide +kernel
theorem dX4_foggerTold_18 : decode cX4_foggerTold 18 = .ok (.iastore, 1) := by decide +kernel
theorem dX4_foggerTold_19 : decode cX4_foggerTold 19 = .ok (.dup, 1) := by decide +kernel
theorem dX4_foggerTold_20 : decode cX4_foggerTold 20 = .ok (.iconst 1, 1) := by decide +kernel
theorem dX4_foggerTold_21 : decode cX4_foggerTold 21 = .ok (.aload_n 0, 1) := by decide +kernel
theorem dX4_foggerTold_22 : decode cX4_foggerTold 22 = .ok (.getfield 17, 3) := by decide +kernel
theorem dX4_foggerTold_25 : decode cX4_foggerTold 25 = .ok (.iload_n 3, 1) := by decide +kernel
theorem dX4_foggerTold_26 : decode cX4_foggerTold 26 = .ok (.iconst 1, 1) := by decide +kernel
theorem dX4_foggerTold_27 : decode cX4_foggerTold 27 = .ok (.iadd, 1) := by decide +kernel
theorem dX4_foggerTold_28 : decode cX4_foggerTold 28 = .ok (.iaload, 1) := by decide +kernel
theorem dX4_foggerTold_29 : decode cX4_foggerTold 29 = .ok (.iastore, 1) := by decide +kernel
theorem dX4_foggerTold_30 : decode cX4_foggerTold 30 = .ok (.dup, 1) := by decide +kernel
theorem dX4_foggerTold_31 : decode cX4_foggerTold 31 = .ok (.iconst 2, 1) := by decide +kernel
theorem dX4_foggerTold_32 : decode cX4_foggerTold 32 = .ok (.aload_n 0, 1) := by decide +kernel
theorem dX4_foggerTold_33 : decode cX4_foggerTold 33 = .ok (.iload_n 1, 1) := by decide +kernel
theorem dX4_foggerTold_34 : decode cX4_foggerTold 34 = .ok (.invokevirtual 93, 3) := by decide +kernel
theorem dX4_foggerTold_37 : decode cX4_foggerTold 37 = .ok (.iastore, 1) := by decide +kernel
theorem dX4_foggerTold_38 : decode cX4_foggerTold 38 = .ok (.dup, 1) := by decide +kernel
theorem dX4_foggerTold_39 : decode cX4_foggerTold 39 = .ok (.iconst 3, 1) := by decide +kernel
theorem dX4_foggerTold_40 : decode cX4_foggerTold 40 = .ok (.aload_n 0, 1) := by decide +kernel
theorem dX4_foggerTold_41 : decode cX4_foggerTold 41 = .ok (.getfield 17, 3) := by decide +kernel
theorem dX4_foggerTold_44 : decode cX4_foggerTold 44 = .ok (.iload_n 3, 1) := by decide +kernel
theorem dX4_foggerTold_45 : decode cX4_foggerTold 45 = .ok (.iconst 2, 1) := by decide +kernel
theorem dX4_foggerTold_46 : decode cX4_foggerTold 46 = .ok (.iadd, 1) := by decide +kernel
theorem dX4_foggerTold_47 : decode cX4_foggerTold 47 = .ok (.iaload, 1) := by decide +kernel
theorem dX4_foggerTold_48 : decode cX4_foggerTold 48 = .ok (.iastore, 1) := by decide +kernel
theorem dX4_foggerTold_49 : decode cX4_foggerTold 49 = .ok (.dup, 1) := by decide +kernel
theorem dX4_foggerTold_50 : decode cX4_foggerTold 50 = .ok (.iconst 4, 1) := by decide +kernel
theorem dX4_foggerTold_51 : decode cX4_foggerTold 51 = .ok (.aload_n 0, 1) := by decide +kernel
theorem dX4_foggerTold_52 : decode cX4_foggerTold 52 = .ok (.getfield 17, 3) := by decide +kernel
theorem dX4_foggerTold_55 : decode cX4_foggerTold 55 = .ok (.iload_n 3, 1) := by decide +kernel
theorem dX4_foggerTold_56 : decode cX4_foggerTold 56 = .ok (.iconst 3, 1) := by decide +kernel
theorem dX4_foggerTold_57 : decode cX4_foggerTold 57 = .ok (.iadd, 1) := by decide +kernel
theorem dX4_foggerTold_58 : decode cX4_foggerTold 58 = .ok (.iaload, 1) := by decide +kernel
theorem dX4_foggerTold_59 : decode cX4_foggerTold 59 = .ok (.iastore, 1) := by decide +kernel
theorem dX4_foggerTold_60 : decode cX4_foggerTold 60 = .ok (.dup, 1) := by decide +kernel
theorem dX4_foggerTold_61 : decode cX4_foggerTold 61 = .ok (.iconst 5, 1) := by decide +kernel
theorem dX4_foggerTold_62 : decode cX4_foggerTold 62 = .ok (.aload_n 0, 1) := by decide +kernel
theorem dX4_foggerTold_63 : decode cX4_foggerTold 63 = .ok (.getfield 17, 3) := by decide +kernel
theorem dX4_foggerTold_66 : decode cX4_foggerTold 66 = .ok (.iload_n 3, 1) := by decide +kernel
theorem dX4_foggerTold_67 : decode cX4_foggerTold 67 = .ok (.iconst 4, 1) := by decide +kernel
theorem dX4_foggerTold_68 : decode cX4_foggerTold 68 = .ok (.iadd, 1) := by decide +kernel
theorem dX4_foggerTold_69 : decode cX4_foggerTold 69 = .ok (.iaload, 1) := by decide +kernel
theorem dX4_foggerTold_70 : decode cX4_foggerTold 70 = .ok (.aload_n 0, 1) := by decide +kernel
theorem dX4_foggerTold_71 : decode cX4_foggerTold 71 = .ok (.getfield 17, 3) := by decide +kernel
theorem dX4_foggerTold_74 : decode cX4_foggerTold 74 = .ok (.iload_n 3, 1) := by decide +kernel
theorem dX4_foggerTold_75 : decode cX4_foggerTold 75 = .ok (.iconst 3, 1) := by decide +kernel
theorem dX4_foggerTold_76 : decode cX4_foggerTold 76 = .ok (.iadd, 1) := by decide +kernel
theorem dX4_foggerTold_77 : decode cX4_foggerTold 77 = .ok (.iaload, 1) := by decide +kernel
theorem dX4_foggerTold_78 : decode cX4_foggerTold 78 = .ok (.isub, 1) := by decide +kernel
theorem dX4_foggerTold_79 : decode cX4_foggerTold 79 = .ok (.iastore, 1) := by decide +kernel
theorem dX4_foggerTold_80 : decode cX4_foggerTold 80 = .ok (.astore 4, 2) := by decide +kernel
theorem dX4_foggerTold_82 : decode cX4_foggerTold 82 = .ok (.aload 4, 2) := by decide +kernel
theorem dX4_foggerTold_84 : decode cX4_foggerTold 84 = .ok (.iload_n 2, 1) := by decide +kernel
theorem dX4_foggerTold_85 : decode cX4_foggerTold 85 = .ok (.iaload, 1) := by decide +kernel
theorem dX4_foggerTold_86 : decode cX4_foggerTold 86 = .ok (.ireturn, 1) := by decide +kernel
theorem dX4_fogger_0 : decode cX4_fogger 0 = .ok (.aload_n 0, 1) := by decide +kernel
theorem dX4_fogger_1 : decode cX4_fogger 1 = .ok (.iconst 0, 1) := by decide +kernel
theorem dX4_fogger_2 : decode cX4_fogger 2 = .ok (.putfield 1, 3) := by decide +kernel
theorem dX4_fogger_5 : decode cX4_fogger 5 = .ok (.iload_n 1, 1) := by decide +kernel
theorem dX4_fogger_6 : decode cX4_fogger 6 = .ok (.invokestatic 79, 3) := by decide +kernel
theorem dX4_fogger_9 : decode cX4_fogger 9 = .ok (.ifCond .eq 21, 3) := by decide +kernel
theorem dX4_fogger_12 : decode cX4_fogger 12 = .ok (.iload_n 2, 1) := by decide +kernel
theorem dX4_fogger_13 : decode cX4_fogger 13 = .ok (.iconst 0, 1) := by decide +kernel
theorem dX4_fogger_14 : decode cX4_fogger 14 = .ok (.iconst 5, 1) := by decide +kernel
theorem dX4_fogger_15 : decode cX4_fogger 15 = .ok (.invokestatic 32, 3) := by decide +kernel
theorem dX4_fogger_18 : decode cX4_fogger 18 = .ok (.ifCond .eq 12, 3) := by decide +kernel
theorem dX4_fogger_21 : decode cX4_fogger 21 = .ok (.aload_n 0, 1) := by decide +kernel
theorem dX4_fogger_22 : decode cX4_fogger 22 = .ok (.iload_n 1, 1) := by decide +kernel
theorem dX4_fogger_23 : decode cX4_fogger 23 = .ok (.iload_n 2, 1) := by decide +kernel
theorem dX4_fogger_24 : decode cX4_fogger 24 = .ok (.invokevirtual 96, 3) := by decide +kernel
theorem dX4_fogger_27 : decode cX4_fogger 27 = .ok (.goto 8, 3) := by decide +kernel
theorem dX4_fogger_30 : decode cX4_fogger 30 = .ok (.aload_n 0, 1) := by decide +kernel
theorem dX4_fogger_31 : decode cX4_fogger 31 = .ok (.iconst 1, 1) := by decide +kernel
theorem dX4_fogger_32 : decode cX4_fogger 32 = .ok (.invokevirtual 83, 3) := by decide +kernel
theorem dX4_fogger_35 : decode cX4_fogger 35 = .ok (.ireturn, 1) := by decide +kernel
theorem dX4_sum_0 : decode cX4_sum 0 = .ok (.iconst 0, 1) := by decide +kernel
theorem dX4_sum_1 : decode cX4_sum 1 = .ok (.istore_n 3, 1) := by decide +kernel
theorem dX4_sum_2 : decode cX4_sum 2 = .ok (.iconst 0, 1) := by decide +kernel
theorem dX4_sum_3 : decode cX4_sum 3 = .ok (.istore 4, 2) := by decide +kernel
theorem dX4_sum_5 : decode cX4_sum 5 = .ok (.iload 4, 2) := by decide +kernel
theorem dX4_sum_7 : decode cX4_sum 7 = .ok (.aload_n 0, 1) := by decide +kernel
theorem dX4_sum_8 : decode cX4_sum 8 = .ok (.getfield 29, 3) := by decide +kernel
theorem dX4_sum_11 : decode cX4_sum 11 = .ok (.if_icmp .ge 21, 3) := by decide +kernel
theorem dX4_sum_14 : decode cX4_sum 14 = .ok (.iload_n 3, 1) := by decide +kernel
theorem dX4_sum_15 : decode cX4_sum 15 = .ok (.aload_n 1, 1) := by decide +kernel
theorem dX4_sum_16 : decode cX4_sum 16 = .ok (.bipush 20, 2) := by decide +kernel
theorem dX4_sum_18 : decode cX4_sum 18 = .ok (.iload 4, 2) := by decide +kernel
theorem dX4_sum_20 : decode cX4_sum 20 = .ok (.imul, 1) := by decide +kernel
theorem dX4_sum_21 : decode cX4_sum 21 = .ok (.iload_n 2, 1) := by decide +kernel
theorem dX4_sum_22 : decode cX4_sum 22 = .ok (.iadd, 1) := by decide +kernel
theorem dX4_sum_23 : decode cX4_sum 23 = .ok (.iaload, 1) := by decide +kernel
theorem dX4_sum_24 : decode cX4_sum 24 = .ok (.iadd, 1) := by decide +kernel
theorem dX4_sum_25 : decode cX4_sum 25 = .ok (.istore_n 3, 1) := by decide +kernel
theorem dX4_sum_26 : decode cX4_sum 26 = .ok (.iinc 4 1, 3) := by decide +kernel
theorem dX4_sum_29 : decode cX4_sum 29 = .ok (.goto (-24), 3) := by decide +kernel
theorem dX4_sum_32 : decode cX4_sum 32 = .ok (.iload_n 3, 1) := by decide +kernel
theorem dX4_sum_33 : decode cX4_sum 33 = .ok (.ireturn, 1) := by decide +kernel
theorem dX4_sumOfFour_0 : decode cX4_sumOfFour 0 = .ok (.aload_n 0, 1) := by decide +kernel
theorem dX4_sumOfFour_1 : decode cX4_sumOfFour 1 = .ok (.aload_n 1, 1) := by decide +kernel
theorem dX4_sumOfFour_2 : decode cX4_sumOfFour 2 = .ok (.iload_n 2, 1) := by decide +kernel
theorem dX4_sumOfFour_3 : decode cX4_sumOfFour 3 = .ok (.invokevirtual 99, 3) := by decide +kernel
theorem dX4_sumOfFour_6 : decode cX4_sumOfFour 6 = .ok (.aload_n 0, 1) := by decide +kernel
theorem dX4_sumOfFour_7 : decode cX4_sumOfFour 7 = .ok (.aload_n 1, 1) := by decide +kernel
theorem dX4_sumOfFour_8 : decode cX4_sumOfFour 8 = .ok (.iload_n 2, 1) := by decide +kernel
theorem dX4_sumOfFour_9 : decode cX4_sumOfFour 9 = .ok (.iconst 1, 1) := by decide +kernel
theorem dX4_sumOfFour_10 : decode cX4_sumOfFour 10 = .ok (.iadd, 1) := by decide +kernel
theorem dX4_sumOfFour_11 : decode cX4_sumOfFour 11 = .ok (.invokevirtual 99, 3) := by decide +kernel
theorem dX4_sumOfFour_14 : decode cX4_sumOfFour 14 = .ok (.iadd, 1) := by decide +kernel
theorem dX4_sumOfFour_15 : decode cX4_sumOfFour 15 = .ok (.aload_n 0, 1) := by decide +kernel
theorem dX4_sumOfFour_16 : decode cX4_sumOfFour 16 = .ok (.aload_n 1, 1) := by decide +kernel
theorem dX4_sumOfFour_17 : decode cX4_sumOfFour 17 = .ok (.iload_n 2, 1) := by decide +kernel
theorem dX4_sumOfFour_18 : decode cX4_sumOfFour 18 = .ok (.iconst 2, 1) := by decide +kernel
theorem dX4_sumOfFour_19 : decode cX4_sumOfFour 19 = .ok (.iadd, 1) := by decide +kernel
theorem dX4_sumOfFour_20 : decode cX4_sumOfFour 20 = .ok (.invokevirtual 99, 3) := by decide +kernel
theorem dX4_sumOfFour_23 : decode cX4_sumOfFour 23 = .ok (.iadd, 1) := by decide +kernel
theorem dX4_sumOfFour_24 : decode cX4_sumOfFour 24 = .ok (.aload_n 0, 1) := by decide +kernel
theorem dX4_sumOfFour_25 : decode cX4_sumOfFour 25 = .ok (.aload_n 1, 1) := by decide +kernel
theorem dX4_sumOfFour_26 : decode cX4_sumOfFour 26 = .ok (.iload_n 2, 1) := by decide +kernel
theorem dX4_sumOfFour_27 : decode cX4_sumOfFour 27 = .ok (.iconst 3, 1) := by decide +kernel
theorem dX4_sumOfFour_28 : decode cX4_sumOfFour 28 = .ok (.iadd, 1) := by decide +kernel
theorem dX4_sumOfFour_29 : decode cX4_sumOfFour 29 = .ok (.invokevirtual 99, 3) := by decide +kernel
theorem dX4_sumOfFour_32 : decode cX4_sumOfFour 32 = .ok (.iadd, 1) := by decide +kernel
theorem dX4_sumOfFour_33 : decode cX4_sumOfFour 33 = .ok (.ireturn, 1) := by decide +kernel
theorem dX4_hot_0 : decode cX4_hot 0 = .ok (.iconst 0, 1) := by decide +kernel
theorem dX4_hot_1 : decode cX4_hot 1 = .ok (.istore_n 1, 1) := by decide +kernel
theorem dX4_hot_2 : decode cX4_hot 2 = .ok (.iconst 0, 1) := by decide +kernel
theorem dX4_hot_3 : decode cX4_hot 3 = .ok (.istore_n 2, 1) := by decide +kernel
theorem dX4_hot_4 : decode cX4_hot 4 = .ok (.iload_n 2, 1) := by decide +kernel
theorem dX4_hot_5 : decode cX4_hot 5 = .ok (.aload_n 0, 1) := by decide +kernel
theorem dX4_hot_6 : decode cX4_hot 6 = .ok (.getfield 29, 3) := by decide +kernel
theorem dX4_hot_9 : decode cX4_hot 9 = .ok (.if_icmp .ge 32, 3) := by decide +kernel
theorem dX4_hot_12 : decode cX4_hot 12 = .ok (.iload_n 1, 1) := by decide +kernel
theorem dX4_hot_13 : decode cX4_hot 13 = .ok (.aload_n 0, 1) := by decide +kernel
theorem dX4_hot_14 : decode cX4_hot 14 = .ok (.getfield 13, 3) := by decide +kernel
theorem dX4_hot_17 : decode cX4_hot 17 = .ok (.bipush 20, 2) := by decide +kernel
theorem dX4_hot_19 : decode cX4_hot 19 = .ok (.iload_n 2, 1) := by decide +kernel
theorem dX4_hot_20 : decode cX4_hot 20 = .ok (.imul, 1) := by decide +kernel
theorem dX4_hot_21 : decode cX4_hot 21 = .ok (.iconst 5, 1) := by decide +kernel
theorem dX4_hot_22 : decode cX4_hot 22 = .ok (.iadd, 1) := by decide +kernel
theorem dX4_hot_23 : decode cX4_hot 23 = .ok (.iaload, 1) := by decide +kernel
theorem dX4_hot_24 : decode cX4_hot 24 = .ok (.iconst 4, 1) := by decide +kernel
theorem dX4_hot_25 : decode cX4_hot 25 = .ok (.if_icmp .lt 7, 3) := by decide +kernel
theorem dX4_hot_28 : decode cX4_hot 28 = .ok (.iconst 1, 1) := by decide +kernel
theorem dX4_hot_29 : decode cX4_hot 29 = .ok (.goto 4, 3) := by decide +kernel
theorem dX4_hot_32 : decode cX4_hot 32 = .ok (.iconst 0, 1) := by decide +kernel
theorem dX4_hot_33 : decode cX4_hot 33 = .ok (.iadd, 1) := by decide +kernel
theorem dX4_hot_34 : decode cX4_hot 34 = .ok (.istore_n 1, 1) := by decide +kernel
theorem dX4_hot_35 : decode cX4_hot 35 = .ok (.iinc 2 1, 3) := by decide +kernel
theorem dX4_hot_38 : decode cX4_hot 38 = .ok (.goto (-34), 3) := by decide +kernel
theorem dX4_hot_41 : decode cX4_hot 41 = .ok (.iload_n 1, 1) := by decide +kernel
theorem dX4_hot_42 : decode cX4_hot 42 = .ok (.ireturn, 1) := by decide +kernel
theorem dX4_bought_0 : decode cX4_bought 0 = .ok (.aload_n 0, 1) := by decide +kernel
theorem dX4_bought_1 : decode cX4_bought 1 = .ok (.iconst 2, 1) := by decide +kernel
theorem dX4_bought_2 : decode cX4_bought 2 = .ok (.iaload, 1) := by decide +kernel
theorem dX4_bought_3 : decode cX4_bought 3 = .ok (.aload_n 0, 1) := by decide +kernel
theorem dX4_bought_4 : decode cX4_bought 4 = .ok (.bipush 7, 2) := by decide +kernel
theorem dX4_bought_6 : decode cX4_bought 6 = .ok (.iaload, 1) := by decide +kernel
theorem dX4_bought_7 : decode cX4_bought 7 = .ok (.iadd, 1) := by decide +kernel
theorem dX4_bought_8 : decode cX4_bought 8 = .ok (.aload_n 0, 1) := by decide +kernel
theorem dX4_bought_9 : decode cX4_bought 9 = .ok (.bipush 12, 2) := by decide +kernel
theorem dX4_bought_11 : decode cX4_bought 11 = .ok (.iaload, 1) := by decide +kernel
theorem dX4_bought_12 : decode cX4_bought 12 = .ok (.iadd, 1) := by decide +kernel
theorem dX4_bought_13 : decode cX4_bought 13 = .ok (.aload_n 0, 1) := by decide +kernel
theorem dX4_bought_14 : decode cX4_bought 14 = .ok (.bipush 17, 2) := by decide +kernel
theorem dX4_bought_16 : decode cX4_bought 16 = .ok (.iaload, 1) := by decide +kernel
theorem dX4_bought_17 : decode cX4_bought 17 = .ok (.iadd, 1) := by decide +kernel
theorem dX4_bought_18 : decode cX4_bought 18 = .ok (.ireturn, 1) := by decide +kernel
theorem dX4_summed_0 : decode cX4_summed 0 = .ok (.iload_n 3, 1) := by decide +kernel
theorem dX4_summed_1 : decode cX4_summed 1 = .ok (.tableswitch 59 3 6 #[31, 38, 46, 54], 31) := by decide +kernel
theorem dX4_summed_32 : decode cX4_summed 32 = .ok (.aload_n 0, 1) := by decide +kernel
theorem dX4_summed_33 : decode cX4_summed 33 = .ok (.aload_n 1, 1) := by decide +kernel
theorem dX4_summed_34 : decode cX4_summed 34 = .ok (.iconst 3, 1) := by decide +kernel
theorem dX4_summed_35 : decode cX4_summed 35 = .ok (.invokevirtual 99, 3) := by decide +kernel
theorem dX4_summed_38 : decode cX4_summed 38 = .ok (.ireturn, 1) := by decide +kernel
theorem dX4_summed_39 : decode cX4_summed 39 = .ok (.aload_n 0, 1) := by decide +kernel
theorem dX4_summed_40 : decode cX4_summed 40 = .ok (.aload_n 1, 1) := by decide +kernel
theorem dX4_summed_41 : decode cX4_summed 41 = .ok (.bipush 12, 2) := by decide +kernel
theorem dX4_summed_43 : decode cX4_summed 43 = .ok (.invokevirtual 102, 3) := by decide +kernel
theorem dX4_summed_46 : decode cX4_summed 46 = .ok (.ireturn, 1) := by decide +kernel
theorem dX4_summed_47 : decode cX4_summed 47 = .ok (.aload_n 0, 1) := by decide +kernel
theorem dX4_summed_48 : decode cX4_summed 48 = .ok (.aload_n 1, 1) := by decide +kernel
theorem dX4_summed_49 : decode cX4_summed 49 = .ok (.bipush 16, 2) := by decide +kernel
theorem dX4_summed_51 : decode cX4_summed 51 = .ok (.invokevirtual 102, 3) := by decide +kernel
theorem dX4_summed_54 : decode cX4_summed 54 = .ok (.ireturn, 1) := by decide +kernel
theorem dX4_summed_55 : decode cX4_summed 55 = .ok (.aload_n 2, 1) := by decide +kernel
theorem dX4_summed_56 : decode cX4_summed 56 = .ok (.invokestatic 105, 3) := by decide +kernel
theorem dX4_summed_59 : decode cX4_summed 59 = .ok (.ireturn, 1) := by decide +kernel
theorem dX4_summed_60 : decode cX4_summed 60 = .ok (.aload_n 0, 1) := by decide +kernel
theorem dX4_summed_61 : decode cX4_summed 61 = .ok (.aload_n 1, 1) := by decide +kernel
theorem dX4_summed_62 : decode cX4_summed 62 = .ok (.iload_n 3, 1) := by decide +kernel
theorem dX4_summed_63 : decode cX4_summed 63 = .ok (.invokevirtual 99, 3) := by decide +kernel
theorem dX4_summed_66 : decode cX4_summed 66 = .ok (.ireturn, 1) := by decide +kernel
theorem dX4_counted_0 : decode cX4_counted 0 = .ok (.iload_n 1, 1) := by decide +kernel
theorem dX4_counted_1 : decode cX4_counted 1 = .ok (.ifCond .ne 10, 3) := by decide +kernel
theorem dX4_counted_4 : decode cX4_counted 4 = .ok (.aload_n 0, 1) := by decide +kernel
theorem dX4_counted_5 : decode cX4_counted 5 = .ok (.getfield 72, 3) := by decide +kernel
theorem dX4_counted_8 : decode cX4_counted 8 = .ok (.goto 40, 3) := by decide +kernel
theorem dX4_counted_11 : decode cX4_counted 11 = .ok (.iload_n 1, 1) := by decide +kernel
theorem dX4_counted_12 : decode cX4_counted 12 = .ok (.iconst 1, 1) := by decide +kernel
theorem dX4_counted_13 : decode cX4_counted 13 = .ok (.if_icmp .ne 10, 3) := by decide +kernel
theorem dX4_counted_16 : decode cX4_counted 16 = .ok (.aload_n 0, 1) := by decide +kernel
theorem dX4_counted_17 : decode cX4_counted 17 = .ok (.getfield 29, 3) := by decide +kernel
theorem dX4_counted_20 : decode cX4_counted 20 = .ok (.goto 28, 3) := by decide +kernel
theorem dX4_counted_23 : decode cX4_counted 23 = .ok (.iload_n 1, 1) := by decide +kernel
theorem dX4_counted_24 : decode cX4_counted 24 = .ok (.iconst 2, 1) := by decide +kernel
theorem dX4_counted_25 : decode cX4_counted 25 = .ok (.if_icmp .ne 10, 3) := by decide +kernel
theorem dX4_counted_28 : decode cX4_counted 28 = .ok (.aload_n 0, 1) := by decide +kernel
theorem dX4_counted_29 : decode cX4_counted 29 = .ok (.invokevirtual 109, 3) := by decide +kernel
theorem dX4_counted_32 : decode cX4_counted 32 = .ok (.goto 16, 3) := by decide +kernel
theorem dX4_counted_35 : decode cX4_counted 35 = .ok (.aload_n 0, 1) := by decide +kernel
theorem dX4_counted_36 : decode cX4_counted 36 = .ok (.aload_n 0, 1) := by decide +kernel
theorem dX4_counted_37 : decode cX4_counted 37 = .ok (.getfield 13, 3) := by decide +kernel
theorem dX4_counted_40 : decode cX4_counted 40 = .ok (.aload_n 0, 1) := by decide +kernel
theorem dX4_counted_41 : decode cX4_counted 41 = .ok (.getfield 17, 3) := by decide +kernel
theorem dX4_counted_44 : decode cX4_counted 44 = .ok (.iload_n 1, 1) := by decide +kernel
theorem dX4_counted_45 : decode cX4_counted 45 = .ok (.invokevirtual 113, 3) := by decide +kernel
theorem dX4_counted_48 : decode cX4_counted 48 = .ok (.ireturn, 1) := by decide +kernel
theorem dX4_count_0 : decode cX4_count 0 = .ok (.aload_n 0, 1) := by decide +kernel
theorem dX4_count_1 : decode cX4_count 1 = .ok (.iconst 0, 1) := by decide +kernel
theorem dX4_count_2 : decode cX4_count 2 = .ok (.putfield 1, 3) := by decide +kernel
theorem dX4_count_5 : decode cX4_count 5 = .ok (.iload_n 1, 1) := by decide +kernel
theorem dX4_count_6 : decode cX4_count 6 = .ok (.iconst 0, 1) := by decide +kernel
theorem dX4_count_7 : decode cX4_count 7 = .ok (.bipush 10, 2) := by decide +kernel
theorem dX4_count_9 : decode cX4_count 9 = .ok (.invokestatic 32, 3) := by decide +kernel
theorem dX4_count_12 : decode cX4_count 12 = .ok (.ifCond .eq 11, 3) := by decide +kernel
theorem dX4_count_15 : decode cX4_count 15 = .ok (.aload_n 0, 1) := by decide +kernel
theorem dX4_count_16 : decode cX4_count 16 = .ok (.iload_n 1, 1) := by decide +kernel
theorem dX4_count_17 : decode cX4_count 17 = .ok (.invokevirtual 116, 3) := by decide +kernel
theorem dX4_count_20 : decode cX4_count 20 = .ok (.goto 8, 3) := by decide +kernel
theorem dX4_count_23 : decode cX4_count 23 = .ok (.aload_n 0, 1) := by decide +kernel
theorem dX4_count_24 : decode cX4_count 24 = .ok (.iconst 1, 1) := by decide +kernel
theorem dX4_count_25 : decode cX4_count 25 = .ok (.invokevirtual 83, 3) := by decide +kernel
theorem dX4_count_28 : decode cX4_count 28 = .ok (.ireturn, 1) := by decide +kernel
theorem dX4_pass__0 : decode cX4_pass_ 0 = .ok (.aload_n 0, 1) := by decide +kernel
theorem dX4_pass__1 : decode cX4_pass_ 1 = .ok (.iconst 0, 1) := by decide +kernel
theorem dX4_pass__2 : decode cX4_pass_ 2 = .ok (.putfield 1, 3) := by decide +kernel
theorem dX4_pass__5 : decode cX4_pass_ 5 = .ok (.iload_n 1, 1) := by decide +kernel
theorem dX4_pass__6 : decode cX4_pass_ 6 = .ok (.iconst 1, 1) := by decide +kernel
theorem dX4_pass__7 : decode cX4_pass_ 7 = .ok (.sipush 240, 3) := by decide +kernel
theorem dX4_pass__10 : decode cX4_pass_ 10 = .ok (.invokestatic 32, 3) := by decide +kernel
theorem dX4_pass__13 : decode cX4_pass_ 13 = .ok (.ifCond .ne 9, 3) := by decide +kernel
theorem dX4_pass__16 : decode cX4_pass_ 16 = .ok (.aload_n 0, 1) := by decide +kernel
theorem dX4_pass__17 : decode cX4_pass_ 17 = .ok (.iconst 1, 1) := by decide +kernel
theorem dX4_pass__18 : decode cX4_pass_ 18 = .ok (.invokevirtual 83, 3) := by decide +kernel
theorem dX4_pass__21 : decode cX4_pass_ 21 = .ok (.ireturn, 1) := by decide +kernel
theorem dX4_pass__22 : decode cX4_pass_ 22 = .ok (.iconst 0, 1) := by decide +kernel
theorem dX4_pass__23 : decode cX4_pass_ 23 = .ok (.istore_n 2, 1) := by decide +kernel
theorem dX4_pass__24 : decode cX4_pass_ 24 = .ok (.iconst 0, 1) := by decide +kernel
theorem dX4_pass__25 : decode cX4_pass_ 25 = .ok (.istore_n 3, 1) := by decide +kernel
theorem dX4_pass__26 : decode cX4_pass_ 26 = .ok (.iload_n 3, 1) := by decide +kernel
theorem dX4_pass__27 : decode cX4_pass_ 27 = .ok (.iload_n 1, 1) := by decide +kernel
theorem dX4_pass__28 : decode cX4_pass_ 28 = .ok (.if_icmp .ge 38, 3) := by decide +kernel
theorem dX4_pass__31 : decode cX4_pass_ 31 = .ok (.iload_n 2, 1) := by decide +kernel
theorem dX4_pass__32 : decode cX4_pass_ 32 = .ok (.aload_n 0, 1) := by decide +kernel
theorem dX4_pass__33 : decode cX4_pass_ 33 = .ok (.aload_n 0, 1) := by decide +kernel
theorem dX4_pass__34 : decode cX4_pass_ 34 = .ok (.getfield 13, 3) := by decide +kernel
theorem dX4_pass__37 : decode cX4_pass_ 37 = .ok (.aload_n 0, 1) := by decide +kernel
theorem dX4_pass__38 : decode cX4_pass_ 38 = .ok (.getfield 17, 3) := by decide +kernel
theorem dX4_pass__41 : decode cX4_pass_ 41 = .ok (.aload_n 0, 1) := by decide +kernel
theorem dX4_pass__42 : decode cX4_pass_ 42 = .ok (.getfield 72, 3) := by decide +kernel
theorem dX4_pass__45 : decode cX4_pass_ 45 = .ok (.invokevirtual 75, 3) := by decide +kernel
theorem dX4_pass__48 : decode cX4_pass_ 48 = .ok (.iadd, 1) := by decide +kernel
theorem dX4_pass__49 : decode cX4_pass_ 49 = .ok (.istore_n 2, 1) := by decide +kernel
theorem dX4_pass__50 : decode cX4_pass_ 50 = .ok (.aload_n 0, 1) := by decide +kernel
theorem dX4_pass__51 : decode cX4_pass_ 51 = .ok (.dup, 1) := by decide +kernel
theorem dX4_pass__52 : decode cX4_pass_ 52 = .ok (.getfield 72, 3) := by decide +kernel
theorem dX4_pass__55 : decode cX4_pass_ 55 = .ok (.iconst 1, 1) := by decide +kernel
theorem dX4_pass__56 : decode cX4_pass_ 56 = .ok (.iadd, 1) := by decide +kernel
theorem dX4_pass__57 : decode cX4_pass_ 57 = .ok (.putfield 72, 3) := by decide +kernel
theorem dX4_pass__60 : decode cX4_pass_ 60 = .ok (.iinc 3 1, 3) := by decide +kernel
theorem dX4_pass__63 : decode cX4_pass_ 63 = .ok (.goto (-37), 3) := by decide +kernel
theorem dX4_pass__66 : decode cX4_pass_ 66 = .ok (.iload_n 2, 1) := by decide +kernel
theorem dX4_pass__67 : decode cX4_pass_ 67 = .ok (.ireturn, 1) := by decide +kernel
theorem dX4_rate_0 : decode cX4_rate 0 = .ok (.aload_n 0, 1) := by decide +kernel
theorem dX4_rate_1 : decode cX4_rate 1 = .ok (.iconst 0, 1) := by decide +kernel
theorem dX4_rate_2 : decode cX4_rate 2 = .ok (.putfield 1, 3) := by decide +kernel
theorem dX4_rate_5 : decode cX4_rate 5 = .ok (.aload_n 0, 1) := by decide +kernel
theorem dX4_rate_6 : decode cX4_rate 6 = .ok (.iload_n 1, 1) := by decide +kernel
theorem dX4_rate_7 : decode cX4_rate 7 = .ok (.invokevirtual 87, 3) := by decide +kernel
theorem dX4_rate_10 : decode cX4_rate 10 = .ok (.ifCond .ne 9, 3) := by decide +kernel
theorem dX4_rate_13 : decode cX4_rate 13 = .ok (.aload_n 0, 1) := by decide +kernel
theorem dX4_rate_14 : decode cX4_rate 14 = .ok (.iconst 1, 1) := by decide +kernel
theorem dX4_rate_15 : decode cX4_rate 15 = .ok (.invokevirtual 83, 3) := by decide +kernel
theorem dX4_rate_18 : decode cX4_rate 18 = .ok (.ireturn, 1) := by decide +kernel
theorem dX4_rate_19 : decode cX4_rate 19 = .ok (.aload_n 0, 1) := by decide +kernel
theorem dX4_rate_20 : decode cX4_rate 20 = .ok (.invokevirtual 119, 3) := by decide +kernel
theorem dX4_rate_23 : decode cX4_rate 23 = .ok (.aload_n 0, 1) := by decide +kernel
theorem dX4_rate_24 : decode cX4_rate 24 = .ok (.aload_n 0, 1) := by decide +kernel
theorem dX4_rate_25 : decode cX4_rate 25 = .ok (.getfield 20, 3) := by decide +kernel
theorem dX4_rate_28 : decode cX4_rate 28 = .ok (.bipush 20, 2) := by decide +kernel
theorem dX4_rate_30 : decode cX4_rate 30 = .ok (.iload_n 1, 1) := by decide +kernel
theorem dX4_rate_31 : decode cX4_rate 31 = .ok (.imul, 1) := by decide +kernel
theorem dX4_rate_32 : decode cX4_rate 32 = .ok (.invokevirtual 58, 3) := by decide +kernel
theorem dX4_rate_35 : decode cX4_rate 35 = .ok (.ireturn, 1) := by decide +kernel
theorem dX4_when_0 : decode cX4_when 0 = .ok (.aload_n 0, 1) := by decide +kernel
theorem dX4_when_1 : decode cX4_when 1 = .ok (.iconst 0, 1) := by decide +kernel
theorem dX4_when_2 : decode cX4_when 2 = .ok (.putfield 1, 3) := by decide +kernel
theorem dX4_when_5 : decode cX4_when 5 = .ok (.aload_n 0, 1) := by decide +kernel
theorem dX4_when_6 : decode cX4_when 6 = .ok (.iload_n 1, 1) := by decide +kernel
theorem dX4_when_7 : decode cX4_when 7 = .ok (.invokevirtual 87, 3) := by decide +kernel
theorem dX4_when_10 : decode cX4_when 10 = .ok (.ifCond .ne 9, 3) := by decide +kernel
theorem dX4_when_13 : decode cX4_when 13 = .ok (.aload_n 0, 1) := by decide +kernel
theorem dX4_when_14 : decode cX4_when 14 = .ok (.iconst 1, 1) := by decide +kernel
theorem dX4_when_15 : decode cX4_when 15 = .ok (.invokevirtual 83, 3) := by decide +kernel
theorem dX4_when_18 : decode cX4_when 18 = .ok (.ireturn, 1) := by decide +kernel
theorem dX4_when_19 : decode cX4_when 19 = .ok (.iload_n 2, 1) := by decide +kernel
theorem dX4_when_20 : decode cX4_when 20 = .ok (.iconst 1, 1) := by decide +kernel
theorem dX4_when_21 : decode cX4_when 21 = .ok (.sipush 9999, 3) := by decide +kernel
theorem dX4_when_24 : decode cX4_when 24 = .ok (.invokestatic 32, 3) := by decide +kernel
theorem dX4_when_27 : decode cX4_when 27 = .ok (.ifCond .ne 9, 3) := by decide +kernel
theorem dX4_when_30 : decode cX4_when 30 = .ok (.aload_n 0, 1) := by decide +kernel
theorem dX4_when_31 : decode cX4_when 31 = .ok (.iconst 2, 1) := by decide +kernel
theorem dX4_when_32 : decode cX4_when 32 = .ok (.invokevirtual 83, 3) := by decide +kernel
theorem dX4_when_35 : decode cX4_when 35 = .ok (.ireturn, 1) := by decide +kernel
theorem dX4_when_36 : decode cX4_when 36 = .ok (.aload_n 0, 1) := by decide +kernel
theorem dX4_when_37 : decode cX4_when 37 = .ok (.invokevirtual 119, 3) := by decide +kernel
theorem dX4_when_40 : decode cX4_when 40 = .ok (.iload_n 2, 1) := by decide +kernel
theorem dX4_when_41 : decode cX4_when 41 = .ok (.istore_n 3, 1) := by decide +kernel
theorem dX4_when_42 : decode cX4_when 42 = .ok (.iconst 1, 1) := by decide +kernel
theorem dX4_when_43 : decode cX4_when 43 = .ok (.istore 4, 2) := by decide +kernel
theorem dX4_when_45 : decode cX4_when 45 = .ok (.iload 4, 2) := by decide +kernel
theorem dX4_when_47 : decode cX4_when 47 = .ok (.sipush 480, 3) := by decide +kernel
theorem dX4_when_50 : decode cX4_when 50 = .ok (.if_icmp .gt 31, 3) := by decide +kernel
theorem dX4_when_53 : decode cX4_when 53 = .ok (.iload_n 3, 1) := by decide +kernel
theorem dX4_when_54 : decode cX4_when 54 = .ok (.aload_n 0, 1) := by decide +kernel
theorem dX4_when_55 : decode cX4_when 55 = .ok (.aload_n 0, 1) := by decide +kernel
theorem dX4_when_56 : decode cX4_when 56 = .ok (.getfield 20, 3) := by decide +kernel
theorem dX4_when_59 : decode cX4_when 59 = .ok (.bipush 20, 2) := by decide +kernel
theorem dX4_when_61 : decode cX4_when 61 = .ok (.iload_n 1, 1) := by decide +kernel
theorem dX4_when_62 : decode cX4_when 62 = .ok (.imul, 1) := by decide +kernel
theorem dX4_when_63 : decode cX4_when 63 = .ok (.invokevirtual 58, 3) := by decide +kernel
theorem dX4_when_66 : decode cX4_when 66 = .ok (.isub, 1) := by decide +kernel
theorem dX4_when_67 : decode cX4_when 67 = .ok (.istore_n 3, 1) := by decide +kernel
theorem dX4_when_68 : decode cX4_when 68 = .ok (.iload_n 3, 1) := by decide +kernel
theorem dX4_when_69 : decode cX4_when 69 = .ok (.ifCond .gt 6, 3) := by decide +kernel
theorem dX4_when_72 : decode cX4_when 72 = .ok (.iload 4, 2) := by decide +kernel
theorem dX4_when_74 : decode cX4_when 74 = .ok (.ireturn, 1) := by decide +kernel
theorem dX4_when_75 : decode cX4_when 75 = .ok (.iinc 4 1, 3) := by decide +kernel
theorem dX4_when_78 : decode cX4_when 78 = .ok (.goto (-33), 3) := by decide +kernel
theorem dX4_when_81 : decode cX4_when 81 = .ok (.iconst (-1), 1) := by decide +kernel
theorem dX4_when_82 : decode cX4_when 82 = .ok (.ireturn, 1) := by decide +kernel
theorem dX4_foresee_0 : decode cX4_foresee 0 = .ok (.aload_n 0, 1) := by decide +kernel
theorem dX4_foresee_1 : decode cX4_foresee 1 = .ok (.iconst 0, 1) := by decide +kernel
theorem dX4_foresee_2 : decode cX4_foresee 2 = .ok (.putfield 1, 3) := by decide +kernel
theorem dX4_foresee_5 : decode cX4_foresee 5 = .ok (.iload_n 1, 1) := by decide +kernel
theorem dX4_foresee_6 : decode cX4_foresee 6 = .ok (.iconst 1, 1) := by decide +kernel
theorem dX4_foresee_7 : decode cX4_foresee 7 = .ok (.sipush 240, 3) := by decide +kernel
theorem dX4_foresee_10 : decode cX4_foresee 10 = .ok (.invokestatic 32, 3) := by decide +kernel
theorem dX4_foresee_13 : decode cX4_foresee 13 = .ok (.ifCond .ne 9, 3) := by decide +kernel
theorem dX4_foresee_16 : decode cX4_foresee 16 = .ok (.aload_n 0, 1) := by decide +kernel
theorem dX4_foresee_17 : decode cX4_foresee 17 = .ok (.iconst 1, 1) := by decide +kernel
theorem dX4_foresee_18 : decode cX4_foresee 18 = .ok (.invokevirtual 83, 3) := by decide +kernel
theorem dX4_foresee_21 : decode cX4_foresee 21 = .ok (.ireturn, 1) := by decide +kernel
theorem dX4_foresee_22 : decode cX4_foresee 22 = .ok (.iload_n 2, 1) := by decide +kernel
theorem dX4_foresee_23 : decode cX4_foresee 23 = .ok (.iconst 3, 1) := by decide +kernel
theorem dX4_foresee_24 : decode cX4_foresee 24 = .ok (.bipush 8, 2) := by decide +kernel
theorem dX4_foresee_26 : decode cX4_foresee 26 = .ok (.invokestatic 32, 3) := by decide +kernel
theorem dX4_foresee_29 : decode cX4_foresee 29 = .ok (.ifCond .ne 9, 3) := by decide +kernel
theorem dX4_foresee_32 : decode cX4_foresee 32 = .ok (.aload_n 0, 1) := by decide +kernel
theorem dX4_foresee_33 : decode cX4_foresee 33 = .ok (.iconst 2, 1) := by decide +kernel
theorem dX4_foresee_34 : decode cX4_foresee 34 = .ok (.invokevirtual 83, 3) := by decide +kernel
theorem dX4_foresee_37 : decode cX4_foresee 37 = .ok (.ireturn, 1) := by decide +kernel
theorem dX4_foresee_38 : decode cX4_foresee 38 = .ok (.aload_n 0, 1) := by decide +kernel
theorem dX4_foresee_39 : decode cX4_foresee 39 = .ok (.invokevirtual 119, 3) := by decide +kernel
theorem dX4_foresee_42 : decode cX4_foresee 42 = .ok (.aload_n 0, 1) := by decide +kernel
theorem dX4_foresee_43 : decode cX4_foresee 43 = .ok (.iload_n 1, 1) := by decide +kernel
theorem dX4_foresee_44 : decode cX4_foresee 44 = .ok (.invokevirtual 122, 3) := by decide +kernel
theorem dX4_foresee_47 : decode cX4_foresee 47 = .ok (.aload_n 0, 1) := by decide +kernel
theorem dX4_foresee_48 : decode cX4_foresee 48 = .ok (.aload_n 0, 1) := by decide +kernel
theorem dX4_foresee_49 : decode cX4_foresee 49 = .ok (.getfield 20, 3) := by decide +kernel
theorem dX4_foresee_52 : decode cX4_foresee 52 = .ok (.aload_n 0, 1) := by decide +kernel
theorem dX4_foresee_53 : decode cX4_foresee 53 = .ok (.getfield 23, 3) := by decide +kernel
theorem dX4_foresee_56 : decode cX4_foresee 56 = .ok (.iload_n 2, 1) := by decide +kernel
theorem dX4_foresee_57 : decode cX4_foresee 57 = .ok (.invokevirtual 113, 3) := by decide +kernel
theorem dX4_foresee_60 : decode cX4_foresee 60 = .ok (.ireturn, 1) := by decide +kernel
theorem dX4_worthOf_0 : decode cX4_worthOf 0 = .ok (.aload_n 0, 1) := by decide +kernel
theorem dX4_worthOf_1 : decode cX4_worthOf 1 = .ok (.invokevirtual 119, 3) := by decide +kernel
theorem dX4_worthOf_4 : decode cX4_worthOf 4 = .ok (.aload_n 0, 1) := by decide +kernel
theorem dX4_worthOf_5 : decode cX4_worthOf 5 = .ok (.getfield 20, 3) := by decide +kernel
theorem dX4_worthOf_8 : decode cX4_worthOf 8 = .ok (.bipush 20, 2) := by decide +kernel
theorem dX4_worthOf_10 : decode cX4_worthOf 10 = .ok (.iload_n 1, 1) := by decide +kernel
theorem dX4_worthOf_11 : decode cX4_worthOf 11 = .ok (.imul, 1) := by decide +kernel
theorem dX4_worthOf_12 : decode cX4_worthOf 12 = .ok (.iconst 1, 1) := by decide +kernel
theorem dX4_worthOf_13 : decode cX4_worthOf 13 = .ok (.iadd, 1) := by decide +kernel
theorem dX4_worthOf_14 : decode cX4_worthOf 14 = .ok (.iload_n 2, 1) := by decide +kernel
theorem dX4_worthOf_15 : decode cX4_worthOf 15 = .ok (.iastore, 1) := by decide +kernel
theorem dX4_worthOf_16 : decode cX4_worthOf 16 = .ok (.iconst 0, 1) := by decide +kernel
theorem dX4_worthOf_17 : decode cX4_worthOf 17 = .ok (.istore 4, 2) := by decide +kernel
theorem dX4_worthOf_19 : decode cX4_worthOf 19 = .ok (.iconst 0, 1) := by decide +kernel
theorem dX4_worthOf_20 : decode cX4_worthOf 20 = .ok (.istore 5, 2) := by decide +kernel
theorem dX4_worthOf_22 : decode cX4_worthOf 22 = .ok (.iload 5, 2) := by decide +kernel
theorem dX4_worthOf_24 : decode cX4_worthOf 24 = .ok (.iload_n 3, 1) := by decide +kernel
theorem dX4_worthOf_25 : decode cX4_worthOf 25 = .ok (.if_icmp .ge 26, 3) := by decide +kernel
theorem dX4_worthOf_28 : decode cX4_worthOf 28 = .ok (.iload 4, 2) := by decide +kernel
theorem dX4_worthOf_30 : decode cX4_worthOf 30 = .ok (.aload_n 0, 1) := by decide +kernel
theorem dX4_worthOf_31 : decode cX4_worthOf 31 = .ok (.aload_n 0, 1) := by decide +kernel
theorem dX4_worthOf_32 : decode cX4_worthOf 32 = .ok (.getfield 20, 3) := by decide +kernel
theorem dX4_worthOf_35 : decode cX4_worthOf 35 = .ok (.bipush 20, 2) := by decide +kernel
theorem dX4_worthOf_37 : decode cX4_worthOf 37 = .ok (.iload_n 1, 1) := by decide +kernel
theorem dX4_worthOf_38 : decode cX4_worthOf 38 = .ok (.imul, 1) := by decide +kernel
theorem dX4_worthOf_39 : decode cX4_worthOf 39 = .ok (.invokevirtual 58, 3) := by decide +kernel
theorem dX4_worthOf_42 : decode cX4_worthOf 42 = .ok (.iadd, 1) := by decide +kernel
theorem dX4_worthOf_43 : decode cX4_worthOf 43 = .ok (.istore 4, 2) := by decide +kernel
theorem dX4_worthOf_45 : decode cX4_worthOf 45 = .ok (.iinc 5 1, 3) := by decide +kernel
theorem dX4_worthOf_48 : decode cX4_worthOf 48 = .ok (.goto (-26), 3) := by decide +kernel
theorem dX4_worthOf_51 : decode cX4_worthOf 51 = .ok (.iload 4, 2) := by decide +kernel
theorem dX4_worthOf_53 : decode cX4_worthOf 53 = .ok (.getstatic 52, 3) := by decide +kernel
theorem dX4_worthOf_56 : decode cX4_worthOf 56 = .ok (.iload_n 2, 1) := by decide +kernel
theorem dX4_worthOf_57 : decode cX4_worthOf 57 = .ok (.iaload, 1) := by decide +kernel
theorem dX4_worthOf_58 : decode cX4_worthOf 58 = .ok (.imul, 1) := by decide +kernel
theorem dX4_worthOf_59 : decode cX4_worthOf 59 = .ok (.ireturn, 1) := by decide +kernel
theorem dX4_advise_0 : decode cX4_advise 0 = .ok (.aload_n 0, 1) := by decide +kernel
theorem dX4_advise_1 : decode cX4_advise 1 = .ok (.iconst 0, 1) := by decide +kernel
theorem dX4_advise_2 : decode cX4_advise 2 = .ok (.putfield 1, 3) := by decide +kernel
theorem dX4_advise_5 : decode cX4_advise 5 = .ok (.aload_n 0, 1) := by decide +kernel
theorem dX4_advise_6 : decode cX4_advise 6 = .ok (.iload_n 1, 1) := by decide +kernel
theorem dX4_advise_7 : decode cX4_advise 7 = .ok (.invokevirtual 87, 3) := by decide +kernel
theorem dX4_advise_10 : decode cX4_advise 10 = .ok (.ifCond .ne 9, 3) := by decide +kernel
theorem dX4_advise_13 : decode cX4_advise 13 = .ok (.aload_n 0, 1) := by decide +kernel
theorem dX4_advise_14 : decode cX4_advise 14 = .ok (.iconst 1, 1) := by decide +kernel
theorem dX4_advise_15 : decode cX4_advise 15 = .ok (.invokevirtual 83, 3) := by decide +kernel
theorem dX4_advise_18 : decode cX4_advise 18 = .ok (.ireturn, 1) := by decide +kernel
theorem dX4_advise_19 : decode cX4_advise 19 = .ok (.iload_n 2, 1) := by decide +kernel
theorem dX4_advise_20 : decode cX4_advise 20 = .ok (.iconst 1, 1) := by decide +kernel
theorem dX4_advise_21 : decode cX4_advise 21 = .ok (.bipush 120, 2) := by decide +kernel
theorem dX4_advise_23 : decode cX4_advise 23 = .ok (.invokestatic 32, 3) := by decide +kernel
theorem dX4_advise_26 : decode cX4_advise 26 = .ok (.ifCond .ne 9, 3) := by decide +kernel
theorem dX4_advise_29 : decode cX4_advise 29 = .ok (.aload_n 0, 1) := by decide +kernel
theorem dX4_advise_30 : decode cX4_advise 30 = .ok (.iconst 2, 1) := by decide +kernel
theorem dX4_advise_31 : decode cX4_advise 31 = .ok (.invokevirtual 83, 3) := by decide +kernel
theorem dX4_advise_34 : decode cX4_advise 34 = .ok (.ireturn, 1) := by decide +kernel
theorem dX4_advise_35 : decode cX4_advise 35 = .ok (.iconst 0, 1) := by decide +kernel
theorem dX4_advise_36 : decode cX4_advise 36 = .ok (.istore_n 3, 1) := by decide +kernel
theorem dX4_advise_37 : decode cX4_advise 37 = .ok (.iconst 1, 1) := by decide +kernel
theorem dX4_advise_38 : decode cX4_advise 38 = .ok (.istore 4, 2) := by decide +kernel
theorem dX4_advise_40 : decode cX4_advise 40 = .ok (.iload 4, 2) := by decide +kernel
theorem dX4_advise_42 : decode cX4_advise 42 = .ok (.iconst 4, 1) := by decide +kernel
theorem dX4_advise_43 : decode cX4_advise 43 = .ok (.if_icmp .ge 30, 3) := by decide +kernel
theorem dX4_advise_46 : decode cX4_advise 46 = .ok (.aload_n 0, 1) := by decide +kernel
theorem dX4_advise_47 : decode cX4_advise 47 = .ok (.iload_n 1, 1) := by decide +kernel
theorem dX4_advise_48 : decode cX4_advise 48 = .ok (.iload 4, 2) := by decide +kernel
theorem dX4_advise_50 : decode cX4_advise 50 = .ok (.iload_n 2, 1) := by decide +kernel
theorem dX4_advise_51 : decode cX4_advise 51 = .ok (.invokevirtual 126, 3) := by decide +kernel
theorem dX4_advise_54 : decode cX4_advise 54 = .ok (.aload_n 0, 1) := by decide +kernel
theorem dX4_advise_55 : decode cX4_advise 55 = .ok (.iload_n 1, 1) := by decide +kernel
theorem dX4_advise_56 : decode cX4_advise 56 = .ok (.iload_n 3, 1) := by decide +kernel
theorem dX4_advise_57 : decode cX4_advise 57 = .ok (.iload_n 2, 1) := by decide +kernel
theorem dX4_advise_58 : decode cX4_advise 58 = .ok (.invokevirtual 126, 3) := by decide +kernel
theorem dX4_advise_61 : decode cX4_advise 61 = .ok (.if_icmp .le 6, 3) := by decide +kernel
theorem dX4_advise_64 : decode cX4_advise 64 = .ok (.iload 4, 2) := by decide +kernel
theorem dX4_advise_66 : decode cX4_advise 66 = .ok (.istore_n 3, 1) := by decide +kernel
theorem dX4_advise_67 : decode cX4_advise 67 = .ok (.iinc 4 1, 3) := by decide +kernel
theorem dX4_advise_70 : decode cX4_advise 70 = .ok (.goto (-30), 3) := by decide +kernel
theorem dX4_advise_73 : decode cX4_advise 73 = .ok (.iload_n 3, 1) := by decide +kernel
theorem dX4_advise_74 : decode cX4_advise 74 = .ok (.ireturn, 1) := by decide +kernel
theorem dX4_richest_0 : decode cX4_richest 0 = .ok (.aload_n 0, 1) := by decide +kernel
theorem dX4_richest_1 : decode cX4_richest 1 = .ok (.iconst 0, 1) := by decide +kernel
theorem dX4_richest_2 : decode cX4_richest 2 = .ok (.putfield 1, 3) := by decide +kernel
theorem dX4_richest_5 : decode cX4_richest 5 = .ok (.iconst (-1), 1) := by decide +kernel
theorem dX4_richest_6 : decode cX4_richest 6 = .ok (.istore_n 1, 1) := by decide +kernel
theorem dX4_richest_7 : decode cX4_richest 7 = .ok (.iconst 0, 1) := by decide +kernel
theorem dX4_richest_8 : decode cX4_richest 8 = .ok (.istore_n 2, 1) := by decide +kernel
theorem dX4_richest_9 : decode cX4_richest 9 = .ok (.iload_n 2, 1) := by decide +kernel
theorem dX4_richest_10 : decode cX4_richest 10 = .ok (.aload_n 0, 1) := by decide +kernel
theorem dX4_richest_11 : decode cX4_richest 11 = .ok (.getfield 29, 3) := by decide +kernel
theorem dX4_richest_14 : decode cX4_richest 14 = .ok (.if_icmp .ge 28, 3) := by decide +kernel
theorem dX4_richest_17 : decode cX4_richest 17 = .ok (.iload_n 1, 1) := by decide +kernel
theorem dX4_richest_18 : decode cX4_richest 18 = .ok (.ifCond .lt 16, 3) := by decide +kernel
theorem dX4_richest_21 : decode cX4_richest 21 = .ok (.aload_n 0, 1) := by decide +kernel
theorem dX4_richest_22 : decode cX4_richest 22 = .ok (.iload_n 2, 1) := by decide +kernel
theorem dX4_richest_23 : decode cX4_richest 23 = .ok (.invokevirtual 130, 3) := by decide +kernel
theorem dX4_richest_26 : decode cX4_richest 26 = .ok (.aload_n 0, 1) := by decide +kernel
theorem dX4_richest_27 : decode cX4_richest 27 = .ok (.iload_n 1, 1) := by decide +kernel
theorem dX4_richest_28 : decode cX4_richest 28 = .ok (.invokevirtual 130, 3) := by decide +kernel
theorem dX4_richest_31 : decode cX4_richest 31 = .ok (.if_icmp .le 5, 3) := by decide +kernel
theorem dX4_richest_34 : decode cX4_richest 34 = .ok (.iload_n 2, 1) := by decide +kernel
theorem dX4_richest_35 : decode cX4_richest 35 = .ok (.istore_n 1, 1) := by decide +kernel
theorem dX4_richest_36 : decode cX4_richest 36 = .ok (.iinc 2 1, 3) := by decide +kernel
theorem dX4_richest_39 : decode cX4_richest 39 = .ok (.goto (-30), 3) := by decide +kernel
theorem dX4_richest_42 : decode cX4_richest 42 = .ok (.iload_n 1, 1) := by decide +kernel
theorem dX4_richest_43 : decode cX4_richest 43 = .ok (.ireturn, 1) := by decide +kernel
theorem dX4_wealth_0 : decode cX4_wealth 0 = .ok (.aload_n 0, 1) := by decide +kernel
theorem dX4_wealth_1 : decode cX4_wealth 1 = .ok (.getfield 13, 3) := by decide +kernel
theorem dX4_wealth_4 : decode cX4_wealth 4 = .ok (.bipush 20, 2) := by decide +kernel
theorem dX4_wealth_6 : decode cX4_wealth 6 = .ok (.iload_n 1, 1) := by decide +kernel
theorem dX4_wealth_7 : decode cX4_wealth 7 = .ok (.imul, 1) := by decide +kernel
theorem dX4_wealth_8 : decode cX4_wealth 8 = .ok (.bipush 7, 2) := by decide +kernel
theorem dX4_wealth_10 : decode cX4_wealth 10 = .ok (.iadd, 1) := by decide +kernel
theorem dX4_wealth_11 : decode cX4_wealth 11 = .ok (.iaload, 1) := by decide +kernel
theorem dX4_wealth_12 : decode cX4_wealth 12 = .ok (.aload_n 0, 1) := by decide +kernel
theorem dX4_wealth_13 : decode cX4_wealth 13 = .ok (.getfield 13, 3) := by decide +kernel
theorem dX4_wealth_16 : decode cX4_wealth 16 = .ok (.bipush 20, 2) := by decide +kernel
theorem dX4_wealth_18 : decode cX4_wealth 18 = .ok (.iload_n 1, 1) := by decide +kernel
theorem dX4_wealth_19 : decode cX4_wealth 19 = .ok (.imul, 1) := by decide +kernel
theorem dX4_wealth_20 : decode cX4_wealth 20 = .ok (.bipush 8, 2) := by decide +kernel
theorem dX4_wealth_22 : decode cX4_wealth 22 = .ok (.iadd, 1) := by decide +kernel
theorem dX4_wealth_23 : decode cX4_wealth 23 = .ok (.iaload, 1) := by decide +kernel
theorem dX4_wealth_24 : decode cX4_wealth 24 = .ok (.isub, 1) := by decide +kernel
theorem dX4_wealth_25 : decode cX4_wealth 25 = .ok (.ireturn, 1) := by decide +kernel
theorem dX4_mean_0 : decode cX4_mean 0 = .ok (.aload_n 0, 1) := by decide +kernel
theorem dX4_mean_1 : decode cX4_mean 1 = .ok (.iconst 0, 1) := by decide +kernel
theorem dX4_mean_2 : decode cX4_mean 2 = .ok (.putfield 1, 3) := by decide +kernel
theorem dX4_mean_5 : decode cX4_mean 5 = .ok (.aload_n 0, 1) := by decide +kernel
theorem dX4_mean_6 : decode cX4_mean 6 = .ok (.getfield 29, 3) := by decide +kernel
theorem dX4_mean_9 : decode cX4_mean 9 = .ok (.ifCond .ne 7, 3) := by decide +kernel
theorem dX4_mean_12 : decode cX4_mean 12 = .ok (.dconst 0, 1) := by decide +kernel
theorem dX4_mean_13 : decode cX4_mean 13 = .ok (.goto 19, 3) := by decide +kernel
theorem dX4_mean_16 : decode cX4_mean 16 = .ok (.aload_n 0, 1) := by decide +kernel
theorem dX4_mean_17 : decode cX4_mean 17 = .ok (.aload_n 0, 1) := by decide +kernel
theorem dX4_mean_18 : decode cX4_mean 18 = .ok (.getfield 13, 3) := by decide +kernel
theorem dX4_mean_21 : decode cX4_mean 21 = .ok (.iconst 5, 1) := by decide +kernel
theorem dX4_mean_22 : decode cX4_mean 22 = .ok (.invokevirtual 99, 3) := by decide +kernel
theorem dX4_mean_25 : decode cX4_mean 25 = .ok (.i2d, 1) := by decide +kernel
theorem dX4_mean_26 : decode cX4_mean 26 = .ok (.aload_n 0, 1) := by decide +kernel
theorem dX4_mean_27 : decode cX4_mean 27 = .ok (.getfield 29, 3) := by decide +kernel
theorem dX4_mean_30 : decode cX4_mean 30 = .ok (.i2d, 1) := by decide +kernel
theorem dX4_mean_31 : decode cX4_mean 31 = .ok (.ddiv, 1) := by decide +kernel
theorem dX4_mean_32 : decode cX4_mean 32 = .ok (.dreturn, 1) := by decide +kernel
theorem dX4_digest_0 : decode cX4_digest 0 = .ok (.aload_n 0, 1) := by decide +kernel
theorem dX4_digest_1 : decode cX4_digest 1 = .ok (.iconst 0, 1) := by decide +kernel
theorem dX4_digest_2 : decode cX4_digest 2 = .ok (.putfield 1, 3) := by decide +kernel
theorem dX4_digest_5 : decode cX4_digest 5 = .ok (.ldc2_w 133, 3) := by decide +kernel
theorem dX4_digest_8 : decode cX4_digest 8 = .ok (.lstore_n 1, 1) := by decide +kernel
theorem dX4_digest_9 : decode cX4_digest 9 = .ok (.iconst 0, 1) := by decide +kernel
theorem dX4_digest_10 : decode cX4_digest 10 = .ok (.istore_n 3, 1) := by decide +kernel
theorem dX4_digest_11 : decode cX4_digest 11 = .ok (.iload_n 3, 1) := by decide +kernel
theorem dX4_digest_12 : decode cX4_digest 12 = .ok (.bipush 11, 2) := by decide +kernel
theorem dX4_digest_14 : decode cX4_digest 14 = .ok (.if_icmp .ge 22, 3) := by decide +kernel
theorem dX4_digest_17 : decode cX4_digest 17 = .ok (.lload_n 1, 1) := by decide +kernel
theorem dX4_digest_18 : decode cX4_digest 18 = .ok (.ldc2_w 135, 3) := by decide +kernel
theorem dX4_digest_21 : decode cX4_digest 21 = .ok (.lmul, 1) := by decide +kernel
theorem dX4_digest_22 : decode cX4_digest 22 = .ok (.aload_n 0, 1) := by decide +kernel
theorem dX4_digest_23 : decode cX4_digest 23 = .ok (.iload_n 3, 1) := by decide +kernel
theorem dX4_digest_24 : decode cX4_digest 24 = .ok (.invokevirtual 116, 3) := by decide +kernel
theorem dX4_digest_27 : decode cX4_digest 27 = .ok (.i2l, 1) := by decide +kernel
theorem dX4_digest_28 : decode cX4_digest 28 = .ok (.ladd, 1) := by decide +kernel
theorem dX4_digest_29 : decode cX4_digest 29 = .ok (.lstore_n 1, 1) := by decide +kernel
theorem dX4_digest_30 : decode cX4_digest 30 = .ok (.iinc 3 1, 3) := by decide +kernel
theorem dX4_digest_33 : decode cX4_digest 33 = .ok (.goto (-22), 3) := by decide +kernel
theorem dX4_digest_36 : decode cX4_digest 36 = .ok (.iconst 0, 1) := by decide +kernel
theorem dX4_digest_37 : decode cX4_digest 37 = .ok (.istore_n 3, 1) := by decide +kernel
theorem dX4_digest_38 : decode cX4_digest 38 = .ok (.iload_n 3, 1) := by decide +kernel
theorem dX4_digest_39 : decode cX4_digest 39 = .ok (.aload_n 0, 1) := by decide +kernel
theorem dX4_digest_40 : decode cX4_digest 40 = .ok (.getfield 29, 3) := by decide +kernel
theorem dX4_digest_43 : decode cX4_digest 43 = .ok (.if_icmp .ge 104, 3) := by decide +kernel
theorem dX4_digest_46 : decode cX4_digest 46 = .ok (.iconst 0, 1) := by decide +kernel
theorem dX4_digest_47 : decode cX4_digest 47 = .ok (.istore 4, 2) := by decide +kernel
theorem dX4_digest_49 : decode cX4_digest 49 = .ok (.iload 4, 2) := by decide +kernel
theorem dX4_digest_51 : decode cX4_digest 51 = .ok (.bipush 12, 2) := by decide +kernel
theorem dX4_digest_53 : decode cX4_digest 53 = .ok (.if_icmp .ge 29, 3) := by decide +kernel
theorem dX4_digest_56 : decode cX4_digest 56 = .ok (.lload_n 1, 1) := by decide +kernel
theorem dX4_digest_57 : decode cX4_digest 57 = .ok (.ldc2_w 135, 3) := by decide +kernel
theorem dX4_digest_60 : decode cX4_digest 60 = .ok (.lmul, 1) := by decide +kernel
theorem dX4_digest_61 : decode cX4_digest 61 = .ok (.aload_n 0, 1) := by decide +kernel
theorem dX4_digest_62 : decode cX4_digest 62 = .ok (.getfield 13, 3) := by decide +kernel
theorem dX4_digest_65 : decode cX4_digest 65 = .ok (.bipush 20, 2) := by decide +kernel
theorem dX4_digest_67 : decode cX4_digest 67 = .ok (.iload_n 3, 1) := by decide +kernel
theorem dX4_digest_68 : decode cX4_digest 68 = .ok (.imul, 1) := by decide +kernel
theorem dX4_digest_69 : decode cX4_digest 69 = .ok (.iload 4, 2) := by decide +kernel
theorem dX4_digest_71 : decode cX4_digest 71 = .ok (.iadd, 1) := by decide +kernel
theorem dX4_digest_72 : decode cX4_digest 72 = .ok (.iaload, 1) := by decide +kernel
theorem dX4_digest_73 : decode cX4_digest 73 = .ok (.i2l, 1) := by decide +kernel
theorem dX4_digest_74 : decode cX4_digest 74 = .ok (.ladd, 1) := by decide +kernel
theorem dX4_digest_75 : decode cX4_digest 75 = .ok (.lstore_n 1, 1) := by decide +kernel
theorem dX4_digest_76 : decode cX4_digest 76 = .ok (.iinc 4 1, 3) := by decide +kernel
theorem dX4_digest_79 : decode cX4_digest 79 = .ok (.goto (-30), 3) := by decide +kernel
theorem dX4_digest_82 : decode cX4_digest 82 = .ok (.iconst 0, 1) := by decide +kernel
theorem dX4_digest_83 : decode cX4_digest 83 = .ok (.istore 4, 2) := by decide +kernel
theorem dX4_digest_85 : decode cX4_digest 85 = .ok (.iload 4, 2) := by decide +kernel
theorem dX4_digest_87 : decode cX4_digest 87 = .ok (.iconst 4, 1) := by decide +kernel
theorem dX4_digest_88 : decode cX4_digest 88 = .ok (.if_icmp .ge 53, 3) := by decide +kernel
theorem dX4_digest_91 : decode cX4_digest 91 = .ok (.lload_n 1, 1) := by decide +kernel
theorem dX4_digest_92 : decode cX4_digest 92 = .ok (.ldc2_w 135, 3) := by decide +kernel
theorem dX4_digest_95 : decode cX4_digest 95 = .ok (.lmul, 1) := by decide +kernel
theorem dX4_digest_96 : decode cX4_digest 96 = .ok (.aload_n 0, 1) := by decide +kernel
theorem dX4_digest_97 : decode cX4_digest 97 = .ok (.getfield 13, 3) := by decide +kernel
theorem dX4_digest_100 : decode cX4_digest 100 = .ok (.bipush 20, 2) := by decide +kernel
theorem dX4_digest_102 : decode cX4_digest 102 = .ok (.iload_n 3, 1) := by decide +kernel
theorem dX4_digest_103 : decode cX4_digest 103 = .ok (.imul, 1) := by decide +kernel
theorem dX4_digest_104 : decode cX4_digest 104 = .ok (.bipush 12, 2) := by decide +kernel
theorem dX4_digest_106 : decode cX4_digest 106 = .ok (.iadd, 1) := by decide +kernel
theorem dX4_digest_107 : decode cX4_digest 107 = .ok (.iload 4, 2) := by decide +kernel
theorem dX4_digest_109 : decode cX4_digest 109 = .ok (.iadd, 1) := by decide +kernel
theorem dX4_digest_110 : decode cX4_digest 110 = .ok (.iaload, 1) := by decide +kernel
theorem dX4_digest_111 : decode cX4_digest 111 = .ok (.i2l, 1) := by decide +kernel
theorem dX4_digest_112 : decode cX4_digest 112 = .ok (.ladd, 1) := by decide +kernel
theorem dX4_digest_113 : decode cX4_digest 113 = .ok (.ldc2_w 135, 3) := by decide +kernel
theorem dX4_digest_116 : decode cX4_digest 116 = .ok (.lmul, 1) := by decide +kernel
theorem dX4_digest_117 : decode cX4_digest 117 = .ok (.aload_n 0, 1) := by decide +kernel
theorem dX4_digest_118 : decode cX4_digest 118 = .ok (.getfield 13, 3) := by decide +kernel
theorem dX4_digest_121 : decode cX4_digest 121 = .ok (.bipush 20, 2) := by decide +kernel
theorem dX4_digest_123 : decode cX4_digest 123 = .ok (.iload_n 3, 1) := by decide +kernel
theorem dX4_digest_124 : decode cX4_digest 124 = .ok (.imul, 1) := by decide +kernel
theorem dX4_digest_125 : decode cX4_digest 125 = .ok (.bipush 16, 2) := by decide +kernel
theorem dX4_digest_127 : decode cX4_digest 127 = .ok (.iadd, 1) := by decide +kernel
theorem dX4_digest_128 : decode cX4_digest 128 = .ok (.iload 4, 2) := by decide +kernel
theorem dX4_digest_130 : decode cX4_digest 130 = .ok (.iadd, 1) := by decide +kernel
theorem dX4_digest_131 : decode cX4_digest 131 = .ok (.iaload, 1) := by decide +kernel
theorem dX4_digest_132 : decode cX4_digest 132 = .ok (.i2l, 1) := by decide +kernel
theorem dX4_digest_133 : decode cX4_digest 133 = .ok (.ladd, 1) := by decide +kernel
theorem dX4_digest_134 : decode cX4_digest 134 = .ok (.lstore_n 1, 1) := by decide +kernel
theorem dX4_digest_135 : decode cX4_digest 135 = .ok (.iinc 4 1, 3) := by decide +kernel
theorem dX4_digest_138 : decode cX4_digest 138 = .ok (.goto (-53), 3) := by decide +kernel
theorem dX4_digest_141 : decode cX4_digest 141 = .ok (.iinc 3 1, 3) := by decide +kernel
theorem dX4_digest_144 : decode cX4_digest 144 = .ok (.goto (-106), 3) := by decide +kernel
theorem dX4_digest_147 : decode cX4_digest 147 = .ok (.iconst 0, 1) := by decide +kernel
theorem dX4_digest_148 : decode cX4_digest 148 = .ok (.istore_n 3, 1) := by decide +kernel
theorem dX4_digest_149 : decode cX4_digest 149 = .ok (.iload_n 3, 1) := by decide +kernel
theorem dX4_digest_150 : decode cX4_digest 150 = .ok (.iconst 4, 1) := by decide +kernel
theorem dX4_digest_151 : decode cX4_digest 151 = .ok (.if_icmp .ge 40, 3) := by decide +kernel
theorem dX4_digest_154 : decode cX4_digest 154 = .ok (.iconst 0, 1) := by decide +kernel
theorem dX4_digest_155 : decode cX4_digest 155 = .ok (.istore 4, 2) := by decide +kernel
theorem dX4_digest_157 : decode cX4_digest 157 = .ok (.iload 4, 2) := by decide +kernel
theorem dX4_digest_159 : decode cX4_digest 159 = .ok (.bipush 6, 2) := by decide +kernel
theorem dX4_digest_161 : decode cX4_digest 161 = .ok (.if_icmp .ge 24, 3) := by decide +kernel
theorem dX4_digest_164 : decode cX4_digest 164 = .ok (.lload_n 1, 1) := by decide +kernel
theorem dX4_digest_165 : decode cX4_digest 165 = .ok (.ldc2_w 135, 3) := by decide +kernel
theorem dX4_digest_168 : decode cX4_digest 168 = .ok (.lmul, 1) := by decide +kernel
theorem dX4_digest_169 : decode cX4_digest 169 = .ok (.aload_n 0, 1) := by decide +kernel
theorem dX4_digest_170 : decode cX4_digest 170 = .ok (.iload_n 3, 1) := by decide +kernel
theorem dX4_digest_171 : decode cX4_digest 171 = .ok (.iload 4, 2) := by decide +kernel
theorem dX4_digest_173 : decode cX4_digest 173 = .ok (.invokevirtual 96, 3) := by decide +kernel
theorem dX4_digest_176 : decode cX4_digest 176 = .ok (.i2l, 1) := by decide +kernel
theorem dX4_digest_177 : decode cX4_digest 177 = .ok (.ladd, 1) := by decide +kernel
theorem dX4_digest_178 : decode cX4_digest 178 = .ok (.lstore_n 1, 1) := by decide +kernel
theorem dX4_digest_179 : decode cX4_digest 179 = .ok (.iinc 4 1, 3) := by decide +kernel
theorem dX4_digest_182 : decode cX4_digest 182 = .ok (.goto (-25), 3) := by decide +kernel
theorem dX4_digest_185 : decode cX4_digest 185 = .ok (.iinc 3 1, 3) := by decide +kernel
theorem dX4_digest_188 : decode cX4_digest 188 = .ok (.goto (-39), 3) := by decide +kernel
theorem dX4_digest_191 : decode cX4_digest 191 = .ok (.lload_n 1, 1) := by decide +kernel
theorem dX4_digest_192 : decode cX4_digest 192 = .ok (.lreturn, 1) := by decide +kernel
