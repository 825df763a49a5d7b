/-! what the instructions are, by program -/
theorem dX4_thrown_0 : decode cX4_thrown 0 = .ok (.aload_n 0, 1) := by decide +kernel
theorem dX4_thrown_1 : decode cX4_thrown 1 = .ok (.getfield 1, 3) := by decide +kernel
theorem dX4_thrown_4 : decode cX4_thrown 4 = .ok (.ireturn, 1) := by decide +kernel
theorem dX4_no_0 : decode cX4_no 0 = .ok (.aload_n 0, 1) := by decide +kernel
theorem dX4_no_1 : decode cX4_no 1 = .ok (.iload_n 1, 1) := by decide +kernel
theorem dX4_no_2 : decode cX4_no 2 = .ok (.putfield 1, 3) := by decide +kernel
theorem dX4_no_5 : decode cX4_no 5 = .ok (.iconst 0, 1) := by decide +kernel
theorem dX4_no_6 : decode cX4_no 6 = .ok (.ireturn, 1) := by decide +kernel
theorem dX4_isIn_0 : decode cX4_isIn 0 = .ok (.iload_n 0, 1) := by decide +kernel
theorem dX4_isIn_1 : decode cX4_isIn 1 = .ok (.iload_n 1, 1) := by decide +kernel
theorem dX4_isIn_2 : decode cX4_isIn 2 = .ok (.if_icmp .lt 12, 3) := by decide +kernel
theorem dX4_isIn_5 : decode cX4_isIn 5 = .ok (.iload_n 0, 1) := by decide +kernel
theorem dX4_isIn_6 : decode cX4_isIn 6 = .ok (.iload_n 2, 1) := by decide +kernel
theorem dX4_isIn_7 : decode cX4_isIn 7 = .ok (.if_icmp .gt 7, 3) := by decide +kernel
theorem dX4_isIn_10 : decode cX4_isIn 10 = .ok (.iconst 1, 1) := by decide +kernel
theorem dX4_isIn_11 : decode cX4_isIn 11 = .ok (.goto 4, 3) := by decide +kernel
theorem dX4_isIn_14 : decode cX4_isIn 14 = .ok (.iconst 0, 1) := by decide +kernel
theorem dX4_isIn_15 : decode cX4_isIn 15 = .ok (.ireturn, 1) := by decide +kernel
theorem dX4_init_0 : decode cX4_init 0 = .ok (.aload_n 0, 1) := by decide +kernel
theorem dX4_init_1 : decode cX4_init 1 = .ok (.invokespecial 7, 3) := by decide +kernel
theorem dX4_init_4 : decode cX4_init 4 = .ok (.aload_n 0, 1) := by decide +kernel
theorem dX4_init_5 : decode cX4_init 5 = .ok (.sipush 240, 3) := by decide +kernel
theorem dX4_init_8 : decode cX4_init 8 = .ok (.newarray .int, 2) := by decide +kernel
theorem dX4_init_10 : decode cX4_init 10 = .ok (.putfield 13, 3) := by decide +kernel
theorem dX4_init_13 : decode cX4_init 13 = .ok (.aload_n 0, 1) := by decide +kernel
theorem dX4_init_14 : decode cX4_init 14 = .ok (.bipush 20, 2) := by decide +kernel
theorem dX4_init_16 : decode cX4_init 16 = .ok (.newarray .int, 2) := by decide +kernel
theorem dX4_init_18 : decode cX4_init 18 = .ok (.putfield 17, 3) := by decide +kernel
theorem dX4_init_21 : decode cX4_init 21 = .ok (.aload_n 0, 1) := by decide +kernel
theorem dX4_init_22 : decode cX4_init 22 = .ok (.sipush 240, 3) := by decide +kernel
theorem dX4_init_25 : decode cX4_init 25 = .ok (.newarray .int, 2) := by decide +kernel
theorem dX4_init_27 : decode cX4_init 27 = .ok (.putfield 20, 3) := by decide +kernel
theorem dX4_init_30 : decode cX4_init 30 = .ok (.aload_n 0, 1) := by decide +kernel
theorem dX4_init_31 : decode cX4_init 31 = .ok (.bipush 20, 2) := by decide +kernel
theorem dX4_init_33 : decode cX4_init 33 = .ok (.newarray .int, 2) := by decide +kernel
theorem dX4_init_35 : decode cX4_init 35 = .ok (.putfield 23, 3) := by decide +kernel
theorem dX4_init_38 : decode cX4_init 38 = .ok (.aload_n 0, 1) := by decide +kernel
theorem dX4_init_39 : decode cX4_init 39 = .ok (.iconst 4, 1) := by decide +kernel
theorem dX4_init_40 : decode cX4_init 40 = .ok (.newarray .int, 2) := by decide +kernel
theorem dX4_init_42 : decode cX4_init 42 = .ok (.putfield 26, 3) := by decide +kernel
theorem dX4_init_45 : decode cX4_init 45 = .ok (.iconst 0, 1) := by decide +kernel
theorem dX4_init_46 : decode cX4_init 46 = .ok (.istore_n 1, 1) := by decide +kernel
theorem dX4_init_47 : decode cX4_init 47 = .ok (.iload_n 1, 1) := by decide +kernel
theorem dX4_init_48 : decode cX4_init 48 = .ok (.iconst 4, 1) := by decide +kernel
theorem dX4_init_49 : decode cX4_init 49 = .ok (.if_icmp .ge 33, 3) := by decide +kernel
theorem dX4_init_52 : decode cX4_init 52 = .ok (.aload_n 0, 1) := by decide +kernel
theorem dX4_init_53 : decode cX4_init 53 = .ok (.getfield 17, 3) := by decide +kernel
theorem dX4_init_56 : decode cX4_init 56 = .ok (.iconst 5, 1) := by decide +kernel
theorem dX4_init_57 : decode cX4_init 57 = .ok (.iload_n 1, 1) := by decide +kernel
theorem dX4_init_58 : decode cX4_init 58 = .ok (.imul, 1) := by decide +kernel
theorem dX4_init_59 : decode cX4_init 59 = .ok (.iconst 0, 1) := by decide +kernel
theorem dX4_init_60 : decode cX4_init 60 = .ok (.iadd, 1) := by decide +kernel
theorem dX4_init_61 : decode cX4_init 61 = .ok (.bipush 20, 2) := by decide +kernel
theorem dX4_init_63 : decode cX4_init 63 = .ok (.iastore, 1) := by decide +kernel
theorem dX4_init_64 : decode cX4_init 64 = .ok (.aload_n 0, 1) := by decide +kernel
theorem dX4_init_65 : decode cX4_init 65 = .ok (.getfield 17, 3) := by decide +kernel
theorem dX4_init_68 : decode cX4_init 68 = .ok (.iconst 5, 1) := by decide +kernel
theorem dX4_init_69 : decode cX4_init 69 = .ok (.iload_n 1, 1) := by decide +kernel
theorem dX4_init_70 : decode cX4_init 70 = .ok (.imul, 1) := by decide +kernel
theorem dX4_init_71 : decode cX4_init 71 = .ok (.iconst 1, 1) := by decide +kernel
theorem dX4_init_72 : decode cX4_init 72 = .ok (.iadd, 1) := by decide +kernel
theorem dX4_init_73 : decode cX4_init 73 = .ok (.bipush 60, 2) := by decide +kernel
theorem dX4_init_75 : decode cX4_init 75 = .ok (.iastore, 1) := by decide +kernel
theorem dX4_init_76 : decode cX4_init 76 = .ok (.iinc 1 1, 3) := by decide +kernel
theorem dX4_init_79 : decode cX4_init 79 = .ok (.goto (-32), 3) := by decide +kernel
theorem dX4_init_82 : decode cX4_init 82 = .ok (.return_, 1) := by decide +kernel
theorem dX4_isThere_0 : decode cX4_isThere 0 = .ok (.iload_n 1, 1) := by decide +kernel
theorem dX4_isThere_1 : decode cX4_isThere 1 = .ok (.iconst 0, 1) := by decide +kernel
theorem dX4_isThere_2 : decode cX4_isThere 2 = .ok (.aload_n 0, 1) := by decide +kernel
theorem dX4_isThere_3 : decode cX4_isThere 3 = .ok (.getfield 29, 3) := by decide +kernel
theorem dX4_isThere_6 : decode cX4_isThere 6 = .ok (.iconst 1, 1) := by decide +kernel
theorem dX4_isThere_7 : decode cX4_isThere 7 = .ok (.isub, 1) := by decide +kernel
theorem dX4_isThere_8 : decode cX4_isThere 8 = .ok (.invokestatic 32, 3) := by decide +kernel
theorem dX4_isThere_11 : decode cX4_isThere 11 = .ok (.ireturn, 1) := by decide +kernel
theorem dX4_isFour_0 : decode cX4_isFour 0 = .ok (.iload_n 0, 1) := by decide +kernel
theorem dX4_isFour_1 : decode cX4_isFour 1 = .ok (.iconst 0, 1) := by decide +kernel
theorem dX4_isFour_2 : decode cX4_isFour 2 = .ok (.iconst 3, 1) := by decide +kernel
theorem dX4_isFour_3 : decode cX4_isFour 3 = .ok (.invokestatic 32, 3) := by decide +kernel
theorem dX4_isFour_6 : decode cX4_isFour 6 = .ok (.ireturn, 1) := by decide +kernel
theorem dX4_work_0 : decode cX4_work 0 = .ok (.aload_n 1, 1) := by decide +kernel
theorem dX4_work_1 : decode cX4_work 1 = .ok (.iload_n 2, 1) := by decide +kernel
theorem dX4_work_2 : decode cX4_work 2 = .ok (.bipush 6, 2) := by decide +kernel
theorem dX4_work_4 : decode cX4_work 4 = .ok (.iadd, 1) := by decide +kernel
theorem dX4_work_5 : decode cX4_work 5 = .ok (.iaload, 1) := by decide +kernel
theorem dX4_work_6 : decode cX4_work 6 = .ok (.ifCond .le 7, 3) := by decide +kernel
theorem dX4_work_9 : decode cX4_work 9 = .ok (.iconst 1, 1) := by decide +kernel
theorem dX4_work_10 : decode cX4_work 10 = .ok (.goto 4, 3) := by decide +kernel
theorem dX4_work_13 : decode cX4_work 13 = .ok (.iconst 0, 1) := by decide +kernel
theorem dX4_work_14 : decode cX4_work 14 = .ok (.istore_n 3, 1) := by decide +kernel
theorem dX4_work_15 : decode cX4_work 15 = .ok (.iload_n 3, 1) := by decide +kernel
theorem dX4_work_16 : decode cX4_work 16 = .ok (.ifCond .eq 13, 3) := by decide +kernel
theorem dX4_work_19 : decode cX4_work 19 = .ok (.aload_n 1, 1) := by decide +kernel
theorem dX4_work_20 : decode cX4_work 20 = .ok (.iload_n 2, 1) := by decide +kernel
theorem dX4_work_21 : decode cX4_work 21 = .ok (.bipush 6, 2) := by decide +kernel
theorem dX4_work_23 : decode cX4_work 23 = .ok (.iadd, 1) := by decide +kernel
theorem dX4_work_24 : decode cX4_work 24 = .ok (.dup2, 1) := by decide +kernel
theorem dX4_work_25 : decode cX4_work 25 = .ok (.iaload, 1) := by decide +kernel
theorem dX4_work_26 : decode cX4_work 26 = .ok (.iconst 1, 1) := by decide +kernel
theorem dX4_work_27 : decode cX4_work 27 = .ok (.isub, 1) := by decide +kernel
theorem dX4_work_28 : decode cX4_work 28 = .ok (.iastore, 1) := by decide +kernel
theorem dX4_work_29 : decode cX4_work 29 = .ok (.aload_n 1, 1) := by decide +kernel
theorem dX4_work_30 : decode cX4_work 30 = .ok (.iload_n 2, 1) := by decide +kernel
theorem dX4_work_31 : decode cX4_work 31 = .ok (.iconst 5, 1) := by decide +kernel
theorem dX4_work_32 : decode cX4_work 32 = .ok (.iadd, 1) := by decide +kernel
theorem dX4_work_33 : decode cX4_work 33 = .ok (.iload_n 3, 1) := by decide +kernel
theorem dX4_work_34 : decode cX4_work 34 = .ok (.ifCond .eq 18, 3) := by decide +kernel
theorem dX4_work_37 : decode cX4_work 37 = .ok (.bipush 9, 2) := by decide +kernel
theorem dX4_work_39 : decode cX4_work 39 = .ok (.aload_n 1, 1) := by decide +kernel
theorem dX4_work_40 : decode cX4_work 40 = .ok (.iload_n 2, 1) := by decide +kernel
theorem dX4_work_41 : decode cX4_work 41 = .ok (.iconst 5, 1) := by decide +kernel
theorem dX4_work_42 : decode cX4_work 42 = .ok (.iadd, 1) := by decide +kernel
theorem dX4_work_43 : decode cX4_work 43 = .ok (.iaload, 1) := by decide +kernel
theorem dX4_work_44 : decode cX4_work 44 = .ok (.iconst 2, 1) := by decide +kernel
theorem dX4_work_45 : decode cX4_work 45 = .ok (.iadd, 1) := by decide +kernel
theorem dX4_work_46 : decode cX4_work 46 = .ok (.invokestatic 36, 3) := by decide +kernel
theorem dX4_work_49 : decode cX4_work 49 = .ok (.goto 14, 3) := by decide +kernel
theorem dX4_work_52 : decode cX4_work 52 = .ok (.iconst 0, 1) := by decide +kernel
theorem dX4_work_53 : decode cX4_work 53 = .ok (.aload_n 1, 1) := by decide +kernel
theorem dX4_work_54 : decode cX4_work 54 = .ok (.iload_n 2, 1) := by decide +kernel
theorem dX4_work_55 : decode cX4_work 55 = .ok (.iconst 5, 1) := by decide +kernel
theorem dX4_work_56 : decode cX4_work 56 = .ok (.iadd, 1) := by decide +kernel
theorem dX4_work_57 : decode cX4_work 57 = .ok (.iaload, 1) := by decide +kernel
theorem dX4_work_58 : decode cX4_work 58 = .ok (.iconst 3, 1) := by decide +kernel
theorem dX4_work_59 : decode cX4_work 59 = .ok (.isub, 1) := by decide +kernel
theorem dX4_work_60 : decode cX4_work 60 = .ok (.invokestatic 42, 3) := by decide +kernel
theorem dX4_work_63 : decode cX4_work 63 = .ok (.iastore, 1) := by decide +kernel
theorem dX4_work_64 : decode cX4_work 64 = .ok (.aload_n 1, 1) := by decide +kernel
theorem dX4_work_65 : decode cX4_work 65 = .ok (.iload_n 2, 1) := by decide +kernel
theorem dX4_work_66 : decode cX4_work 66 = .ok (.iconst 5, 1) := by decide +kernel
theorem dX4_work_67 : decode cX4_work 67 = .ok (.iadd, 1) := by decide +kernel
theorem dX4_work_68 : decode cX4_work 68 = .ok (.iaload, 1) := by decide +kernel
theorem dX4_work_69 : decode cX4_work 69 = .ok (.istore 4, 2) := by decide +kernel
theorem dX4_work_71 : decode cX4_work 71 = .ok (.aload_n 1, 1) := by decide +kernel
theorem dX4_work_72 : decode cX4_work 72 = .ok (.iload_n 2, 1) := by decide +kernel
theorem dX4_work_73 : decode cX4_work 73 = .ok (.iconst 1, 1) := by decide +kernel
theorem dX4_work_74 : decode cX4_work 74 = .ok (.iadd, 1) := by decide +kernel
theorem dX4_work_75 : decode cX4_work 75 = .ok (.iaload, 1) := by decide +kernel
theorem dX4_work_76 : decode cX4_work 76 = .ok (.istore 5, 2) := by decide +kernel
theorem dX4_work_78 : decode cX4_work 78 = .ok (.iload 4, 2) := by decide +kernel
theorem dX4_work_80 : decode cX4_work 80 = .ok (.iconst 4, 1) := by decide +kernel
theorem dX4_work_81 : decode cX4_work 81 = .ok (.if_icmp .ge 7, 3) := by decide +kernel
theorem dX4_work_84 : decode cX4_work 84 = .ok (.iconst 0, 1) := by decide +kernel
theorem dX4_work_85 : decode cX4_work 85 = .ok (.goto 18, 3) := by decide +kernel
theorem dX4_work_88 : decode cX4_work 88 = .ok (.aload_n 1, 1) := by decide +kernel
theorem dX4_work_89 : decode cX4_work 89 = .ok (.iload_n 2, 1) := by decide +kernel
theorem dX4_work_90 : decode cX4_work 90 = .ok (.iconst 0, 1) := by decide +kernel
theorem dX4_work_91 : decode cX4_work 91 = .ok (.iadd, 1) := by decide +kernel
theorem dX4_work_92 : decode cX4_work 92 = .ok (.iaload, 1) := by decide +kernel
theorem dX4_work_93 : decode cX4_work 93 = .ok (.iload 4, 2) := by decide +kernel
theorem dX4_work_95 : decode cX4_work 95 = .ok (.imul, 1) := by decide +kernel
theorem dX4_work_96 : decode cX4_work 96 = .ok (.iconst 2, 1) := by decide +kernel
theorem dX4_work_97 : decode cX4_work 97 = .ok (.imul, 1) := by decide +kernel
theorem dX4_work_98 : decode cX4_work 98 = .ok (.iload 5, 2) := by decide +kernel
theorem dX4_work_100 : decode cX4_work 100 = .ok (.iconst 1, 1) := by decide +kernel
theorem dX4_work_101 : decode cX4_work 101 = .ok (.iadd, 1) := by decide +kernel
theorem dX4_work_102 : decode cX4_work 102 = .ok (.idiv, 1) := by decide +kernel
theorem dX4_work_103 : decode cX4_work 103 = .ok (.istore 6, 2) := by decide +kernel
theorem dX4_work_105 : decode cX4_work 105 = .ok (.iconst 0, 1) := by decide +kernel
theorem dX4_work_106 : decode cX4_work 106 = .ok (.istore 7, 2) := by decide +kernel
theorem dX4_work_108 : decode cX4_work 108 = .ok (.iload 7, 2) := by decide +kernel
theorem dX4_work_110 : decode cX4_work 110 = .ok (.iload 6, 2) := by decide +kernel
theorem dX4_work_112 : decode cX4_work 112 = .ok (.if_icmp .ge 32, 3) := by decide +kernel
theorem dX4_work_115 : decode cX4_work 115 = .ok (.aload_n 0, 1) := by decide +kernel
theorem dX4_work_116 : decode cX4_work 116 = .ok (.aload_n 1, 1) := by decide +kernel
theorem dX4_work_117 : decode cX4_work 117 = .ok (.iload_n 2, 1) := by decide +kernel
theorem dX4_work_118 : decode cX4_work 118 = .ok (.invokevirtual 45, 3) := by decide +kernel
theorem dX4_work_121 : decode cX4_work 121 = .ok (.ifCond .eq 23, 3) := by decide +kernel
theorem dX4_work_124 : decode cX4_work 124 = .ok (.aload_n 1, 1) := by decide +kernel
theorem dX4_work_125 : decode cX4_work 125 = .ok (.iload_n 2, 1) := by decide +kernel
theorem dX4_work_126 : decode cX4_work 126 = .ok (.iconst 4, 1) := by decide +kernel
theorem dX4_work_127 : decode cX4_work 127 = .ok (.iadd, 1) := by decide +kernel
theorem dX4_work_128 : decode cX4_work 128 = .ok (.dup2, 1) := by decide +kernel
theorem dX4_work_129 : decode cX4_work 129 = .ok (.iaload, 1) := by decide +kernel
theorem dX4_work_130 : decode cX4_work 130 = .ok (.getstatic 49, 3) := by decide +kernel
theorem dX4_work_133 : decode cX4_work 133 = .ok (.iload 5, 2) := by decide +kernel
theorem dX4_work_135 : decode cX4_work 135 = .ok (.iaload, 1) := by decide +kernel
theorem dX4_work_136 : decode cX4_work 136 = .ok (.isub, 1) := by decide +kernel
theorem dX4_work_137 : decode cX4_work 137 = .ok (.iastore, 1) := by decide +kernel
theorem dX4_work_138 : decode cX4_work 138 = .ok (.iinc 7 1, 3) := by decide +kernel
theorem dX4_work_141 : decode cX4_work 141 = .ok (.goto (-33), 3) := by decide +kernel
theorem dX4_work_144 : decode cX4_work 144 = .ok (.iload 4, 2) := by decide +kernel
theorem dX4_work_146 : decode cX4_work 146 = .ok (.bipush 8, 2) := by decide +kernel
theorem dX4_work_148 : decode cX4_work 148 = .ok (.if_icmp .lt 11, 3) := by decide +kernel
theorem dX4_work_151 : decode cX4_work 151 = .ok (.iload 7, 2) := by decide +kernel
theorem dX4_work_153 : decode cX4_work 153 = .ok (.bipush 10, 2) := by decide +kernel
theorem dX4_work_155 : decode cX4_work 155 = .ok (.idiv, 1) := by decide +kernel
theorem dX4_work_156 : decode cX4_work 156 = .ok (.goto 4, 3) := by decide +kernel
theorem dX4_work_159 : decode cX4_work 159 = .ok (.iconst 0, 1) := by decide +kernel
theorem dX4_work_160 : decode cX4_work 160 = .ok (.istore 8, 2) := by decide +kernel
theorem dX4_work_162 : decode cX4_work 162 = .ok (.aload_n 1, 1) := by decide +kernel
theorem dX4_work_163 : decode cX4_work 163 = .ok (.iload_n 2, 1) := by decide +kernel
theorem dX4_work_164 : decode cX4_work 164 = .ok (.bipush 10, 2) := by decide +kernel
theorem dX4_work_166 : decode cX4_work 166 = .ok (.iadd, 1) := by decide +kernel
theorem dX4_work_167 : decode cX4_work 167 = .ok (.dup2, 1) := by decide +kernel
theorem dX4_work_168 : decode cX4_work 168 = .ok (.iaload, 1) := by decide +kernel
theorem dX4_work_169 : decode cX4_work 169 = .ok (.iload 8, 2) := by decide +kernel
theorem dX4_work_171 : decode cX4_work 171 = .ok (.iadd, 1) := by decide +kernel
theorem dX4_work_172 : decode cX4_work 172 = .ok (.iastore, 1) := by decide +kernel
theorem dX4_work_173 : decode cX4_work 173 = .ok (.aload_n 1, 1) := by decide +kernel
theorem dX4_work_174 : decode cX4_work 174 = .ok (.iload_n 2, 1) := by decide +kernel
theorem dX4_work_175 : decode cX4_work 175 = .ok (.bipush 11, 2) := by decide +kernel
theorem dX4_work_177 : decode cX4_work 177 = .ok (.iadd, 1) := by decide +kernel
theorem dX4_work_178 : decode cX4_work 178 = .ok (.dup2, 1) := by decide +kernel
theorem dX4_work_179 : decode cX4_work 179 = .ok (.iaload, 1) := by decide +kernel
theorem dX4_work_180 : decode cX4_work 180 = .ok (.iload 7, 2) := by decide +kernel
theorem dX4_work_182 : decode cX4_work 182 = .ok (.iload 8, 2) := by decide +kernel
theorem dX4_work_184 : decode cX4_work 184 = .ok (.isub, 1) := by decide +kernel
theorem dX4_work_185 : decode cX4_work 185 = .ok (.iadd, 1) := by decide +kernel
theorem dX4_work_186 : decode cX4_work 186 = .ok (.iastore, 1) := by decide +kernel
theorem dX4_work_187 : decode cX4_work 187 = .ok (.aload_n 1, 1) := by decide +kernel
theorem dX4_work_188 : decode cX4_work 188 = .ok (.iload_n 2, 1) := by decide +kernel
theorem dX4_work_189 : decode cX4_work 189 = .ok (.bipush 12, 2) := by decide +kernel
theorem dX4_work_191 : decode cX4_work 191 = .ok (.iadd, 1) := by decide +kernel
theorem dX4_work_192 : decode cX4_work 192 = .ok (.iload 5, 2) := by decide +kernel
theorem dX4_work_194 : decode cX4_work 194 = .ok (.iadd, 1) := by decide +kernel
theorem dX4_work_195 : decode cX4_work 195 = .ok (.dup2, 1) := by decide +kernel
theorem dX4_work_196 : decode cX4_work 196 = .ok (.iaload, 1) := by decide +kernel
theorem dX4_work_197 : decode cX4_work 197 = .ok (.iload 7, 2) := by decide +kernel
theorem dX4_work_199 : decode cX4_work 199 = .ok (.iload 8, 2) := by decide +kernel
theorem dX4_work_201 : decode cX4_work 201 = .ok (.isub, 1) := by decide +kernel
theorem dX4_work_202 : decode cX4_work 202 = .ok (.iadd, 1) := by decide +kernel
theorem dX4_work_203 : decode cX4_work 203 = .ok (.iastore, 1) := by decide +kernel
theorem dX4_work_204 : decode cX4_work 204 = .ok (.aload_n 1, 1) := by decide +kernel
theorem dX4_work_205 : decode cX4_work 205 = .ok (.iload_n 2, 1) := by decide +kernel
theorem dX4_work_206 : decode cX4_work 206 = .ok (.bipush 16, 2) := by decide +kernel
theorem dX4_work_208 : decode cX4_work 208 = .ok (.iadd, 1) := by decide +kernel
theorem dX4_work_209 : decode cX4_work 209 = .ok (.iload 5, 2) := by decide +kernel
theorem dX4_work_211 : decode cX4_work 211 = .ok (.iadd, 1) := by decide +kernel
theorem dX4_work_212 : decode cX4_work 212 = .ok (.dup2, 1) := by decide +kernel
theorem dX4_work_213 : decode cX4_work 213 = .ok (.iaload, 1) := by decide +kernel
theorem dX4_work_214 : decode cX4_work 214 = .ok (.aload_n 1, 1) := by decide +kernel
theorem dX4_work_215 : decode cX4_work 215 = .ok (.iload_n 2, 1) := by decide +kernel
theorem dX4_work_216 : decode cX4_work 216 = .ok (.bipush 12, 2) := by decide +kernel
theorem dX4_work_218 : decode cX4_work 218 = .ok (.iadd, 1) := by decide +kernel
theorem dX4_work_219 : decode cX4_work 219 = .ok (.iload 5, 2) := by decide +kernel
theorem dX4_work_221 : decode cX4_work 221 = .ok (.iadd, 1) := by decide +kernel
theorem dX4_work_222 : decode cX4_work 222 = .ok (.iaload, 1) := by decide +kernel
theorem dX4_work_223 : decode cX4_work 223 = .ok (.sipush 1000, 3) := by decide +kernel
theorem dX4_work_226 : decode cX4_work 226 = .ok (.idiv, 1) := by decide +kernel
theorem dX4_work_227 : decode cX4_work 227 = .ok (.iadd, 1) := by decide +kernel
theorem dX4_work_228 : decode cX4_work 228 = .ok (.iastore, 1) := by decide +kernel
theorem dX4_work_229 : decode cX4_work 229 = .ok (.aload_n 1, 1) := by decide +kernel
theorem dX4_work_230 : decode cX4_work 230 = .ok (.iload_n 2, 1) := by decide +kernel
theorem dX4_work_231 : decode cX4_work 231 = .ok (.bipush 12, 2) := by decide +kernel
theorem dX4_work_233 : decode cX4_work 233 = .ok (.iadd, 1) := by decide +kernel
theorem dX4_work_234 : decode cX4_work 234 = .ok (.iload 5, 2) := by decide +kernel
theorem dX4_work_236 : decode cX4_work 236 = .ok (.iadd, 1) := by decide +kernel
theorem dX4_work_237 : decode cX4_work 237 = .ok (.dup2, 1) := by decide +kernel
theorem dX4_work_238 : decode cX4_work 238 = .ok (.iaload, 1) := by decide +kernel
theorem dX4_work_239 : decode cX4_work 239 = .ok (.sipush 1000, 3) := by decide +kernel
theorem dX4_work_242 : decode cX4_work 242 = .ok (.irem, 1) := by decide +kernel
theorem dX4_work_243 : decode cX4_work 243 = .ok (.iastore, 1) := by decide +kernel
theorem dX4_work_244 : decode cX4_work 244 = .ok (.iload 7, 2) := by decide +kernel
theorem dX4_work_246 : decode cX4_work 246 = .ok (.iload 8, 2) := by decide +kernel
theorem dX4_work_248 : decode cX4_work 248 = .ok (.isub, 1) := by decide +kernel
theorem dX4_work_249 : decode cX4_work 249 = .ok (.ireturn, 1) := by decide +kernel
theorem dX4_hasIron_0 : decode cX4_hasIron 0 = .ok (.aload_n 1, 1) := by decide +kernel
theorem dX4_hasIron_1 : decode cX4_hasIron 1 = .ok (.iload_n 2, 1) := by decide +kernel
theorem dX4_hasIron_2 : decode cX4_hasIron 2 = .ok (.iconst 4, 1) := by decide +kernel
theorem dX4_hasIron_3 : decode cX4_hasIron 3 = .ok (.iadd, 1) := by decide +kernel
theorem dX4_hasIron_4 : decode cX4_hasIron 4 = .ok (.iaload, 1) := by decide +kernel
theorem dX4_hasIron_5 : decode cX4_hasIron 5 = .ok (.getstatic 49, 3) := by decide +kernel
theorem dX4_hasIron_8 : decode cX4_hasIron 8 = .ok (.aload_n 1, 1) := by decide +kernel
theorem dX4_hasIron_9 : decode cX4_hasIron 9 = .ok (.iload_n 2, 1) := by decide +kernel
theorem dX4_hasIron_10 : decode cX4_hasIron 10 = .ok (.iconst 1, 1) := by decide +kernel
theorem dX4_hasIron_11 : decode cX4_hasIron 11 = .ok (.iadd, 1) := by decide +kernel
theorem dX4_hasIron_12 : decode cX4_hasIron 12 = .ok (.iaload, 1) := by decide +kernel
theorem dX4_hasIron_13 : decode cX4_hasIron 13 = .ok (.iaload, 1) := by decide +kernel
theorem dX4_hasIron_14 : decode cX4_hasIron 14 = .ok (.if_icmp .lt 5, 3) := by decide +kernel
theorem dX4_hasIron_17 : decode cX4_hasIron 17 = .ok (.iconst 1, 1) := by decide +kernel
theorem dX4_hasIron_18 : decode cX4_hasIron 18 = .ok (.ireturn, 1) := by decide +kernel
theorem dX4_hasIron_19 : decode cX4_hasIron 19 = .ok (.aload_n 1, 1) := by decide +kernel
theorem dX4_hasIron_20 : decode cX4_hasIron 20 = .ok (.iload_n 2, 1) := by decide +kernel
theorem dX4_hasIron_21 : decode cX4_hasIron 21 = .ok (.iconst 3, 1) := by decide +kernel
theorem dX4_hasIron_22 : decode cX4_hasIron 22 = .ok (.iadd, 1) := by decide +kernel
theorem dX4_hasIron_23 : decode cX4_hasIron 23 = .ok (.iaload, 1) := by decide +kernel
theorem dX4_hasIron_24 : decode cX4_hasIron 24 = .ok (.ifCond .ne 5, 3) := by decide +kernel
theorem dX4_hasIron_27 : decode cX4_hasIron 27 = .ok (.iconst 0, 1) := by decide +kernel
theorem dX4_hasIron_28 : decode cX4_hasIron 28 = .ok (.ireturn, 1) := by decide +kernel
theorem dX4_hasIron_29 : decode cX4_hasIron 29 = .ok (.aload_n 1, 1) := by decide +kernel
theorem dX4_hasIron_30 : decode cX4_hasIron 30 = .ok (.iload_n 2, 1) := by decide +kernel
theorem dX4_hasIron_31 : decode cX4_hasIron 31 = .ok (.iconst 3, 1) := by decide +kernel
theorem dX4_hasIron_32 : decode cX4_hasIron 32 = .ok (.iadd, 1) := by decide +kernel
theorem dX4_hasIron_33 : decode cX4_hasIron 33 = .ok (.dup2, 1) := by decide +kernel
theorem dX4_hasIron_34 : decode cX4_hasIron 34 = .ok (.iaload, 1) := by decide +kernel
theorem dX4_hasIron_35 : decode cX4_hasIron 35 = .ok (.iconst 1, 1) := by decide +kernel
theorem dX4_hasIron_36 : decode cX4_hasIron 36 = .ok (.isub, 1) := by decide +kernel
theorem dX4_hasIron_37 : decode cX4_hasIron 37 = .ok (.iastore, 1) := by decide +kernel
theorem dX4_hasIron_38 : decode cX4_hasIron 38 = .ok (.aload_n 1, 1) := by decide +kernel
theorem dX4_hasIron_39 : decode cX4_hasIron 39 = .ok (.iload_n 2, 1) := by decide +kernel
theorem dX4_hasIron_40 : decode cX4_hasIron 40 = .ok (.bipush 9, 2) := by decide +kernel
theorem dX4_hasIron_42 : decode cX4_hasIron 42 = .ok (.iadd, 1) := by decide +kernel
theorem dX4_hasIron_43 : decode cX4_hasIron 43 = .ok (.dup2, 1) := by decide +kernel
theorem dX4_hasIron_44 : decode cX4_hasIron 44 = .ok (.iaload, 1) := by decide +kernel
theorem dX4_hasIron_45 : decode cX4_hasIron 45 = .ok (.aload_n 1, 1) := by decide +kernel
theorem dX4_hasIron_46 : decode cX4_hasIron 46 = .ok (.iload_n 2, 1) := by decide +kernel
theorem dX4_hasIron_47 : decode cX4_hasIron 47 = .ok (.iconst 4, 1) := by decide +kernel
theorem dX4_hasIron_48 : decode cX4_hasIron 48 = .ok (.iadd, 1) := by decide +kernel
theorem dX4_hasIron_49 : decode cX4_hasIron 49 = .ok (.iaload, 1) := by decide +kernel
theorem dX4_hasIron_50 : decode cX4_hasIron 50 = .ok (.iadd, 1) := by decide +kernel
theorem dX4_hasIron_51 : decode cX4_hasIron 51 = .ok (.iastore, 1) := by decide +kernel
theorem dX4_hasIron_52 : decode cX4_hasIron 52 = .ok (.aload_n 1, 1) := by decide +kernel
theorem dX4_hasIron_53 : decode cX4_hasIron 53 = .ok (.iload_n 2, 1) := by decide +kernel
theorem dX4_hasIron_54 : decode cX4_hasIron 54 = .ok (.iconst 4, 1) := by decide +kernel
theorem dX4_hasIron_55 : decode cX4_hasIron 55 = .ok (.iadd, 1) := by decide +kernel
theorem dX4_hasIron_56 : decode cX4_hasIron 56 = .ok (.sipush 240, 3) := by decide +kernel
theorem dX4_hasIron_59 : decode cX4_hasIron 59 = .ok (.iastore, 1) := by decide +kernel
theorem dX4_hasIron_60 : decode cX4_hasIron 60 = .ok (.iconst 1, 1) := by decide +kernel
theorem dX4_hasIron_61 : decode cX4_hasIron 61 = .ok (.ireturn, 1) := by decide +kernel
theorem dX4_priceOf_0 : decode cX4_priceOf 0 = .ok (.getstatic 52, 3) := by decide +kernel
theorem dX4_priceOf_3 : decode cX4_priceOf 3 = .ok (.iload_n 0, 1) := by decide +kernel
theorem dX4_priceOf_4 : decode cX4_priceOf 4 = .ok (.iaload, 1) := by decide +kernel
theorem dX4_priceOf_5 : decode cX4_priceOf 5 = .ok (.bipush 100, 2) := by decide +kernel
theorem dX4_priceOf_7 : decode cX4_priceOf 7 = .ok (.iload_n 1, 1) := by decide +kernel
theorem dX4_priceOf_8 : decode cX4_priceOf 8 = .ok (.isub, 1) := by decide +kernel
theorem dX4_priceOf_9 : decode cX4_priceOf 9 = .ok (.imul, 1) := by decide +kernel
theorem dX4_priceOf_10 : decode cX4_priceOf 10 = .ok (.bipush 100, 2) := by decide +kernel
theorem dX4_priceOf_12 : decode cX4_priceOf 12 = .ok (.idiv, 1) := by decide +kernel
theorem dX4_priceOf_13 : decode cX4_priceOf 13 = .ok (.ireturn, 1) := by decide +kernel
theorem dX4_reckon_0 : decode cX4_reckon 0 = .ok (.aload_n 1, 1) := by decide +kernel
theorem dX4_reckon_1 : decode cX4_reckon 1 = .ok (.iload_n 3, 1) := by decide +kernel
theorem dX4_reckon_2 : decode cX4_reckon 2 = .ok (.iconst 2, 1) := by decide +kernel
theorem dX4_reckon_3 : decode cX4_reckon 3 = .ok (.iadd, 1) := by decide +kernel
theorem dX4_reckon_4 : decode cX4_reckon 4 = .ok (.iaload, 1) := by decide +kernel
theorem dX4_reckon_5 : decode cX4_reckon 5 = .ok (.istore 5, 2) := by decide +kernel
theorem dX4_reckon_7 : decode cX4_reckon 7 = .ok (.iconst 5, 1) := by decide +kernel
theorem dX4_reckon_8 : decode cX4_reckon 8 = .ok (.iload 5, 2) := by decide +kernel
theorem dX4_reckon_10 : decode cX4_reckon 10 = .ok (.imul, 1) := by decide +kernel
theorem dX4_reckon_11 : decode cX4_reckon 11 = .ok (.istore 6, 2) := by decide +kernel
theorem dX4_reckon_13 : decode cX4_reckon 13 = .ok (.iconst 0, 1) := by decide +kernel
theorem dX4_reckon_14 : decode cX4_reckon 14 = .ok (.istore 7, 2) := by decide +kernel
theorem dX4_reckon_16 : decode cX4_reckon 16 = .ok (.iload 7, 2) := by decide +kernel
theorem dX4_reckon_18 : decode cX4_reckon 18 = .ok (.iconst 4, 1) := by decide +kernel
theorem dX4_reckon_19 : decode cX4_reckon 19 = .ok (.if_icmp .ge 125, 3) := by decide +kernel
theorem dX4_reckon_22 : decode cX4_reckon 22 = .ok (.iload 7, 2) := by decide +kernel
theorem dX4_reckon_24 : decode cX4_reckon 24 = .ok (.aload_n 2, 1) := by decide +kernel
theorem dX4_reckon_25 : decode cX4_reckon 25 = .ok (.iload 6, 2) := by decide +kernel
theorem dX4_reckon_27 : decode cX4_reckon 27 = .ok (.iconst 0, 1) := by decide +kernel
theorem dX4_reckon_28 : decode cX4_reckon 28 = .ok (.iadd, 1) := by decide +kernel
theorem dX4_reckon_29 : decode cX4_reckon 29 = .ok (.iaload, 1) := by decide +kernel
theorem dX4_reckon_30 : decode cX4_reckon 30 = .ok (.invokestatic 55, 3) := by decide +kernel
theorem dX4_reckon_33 : decode cX4_reckon 33 = .ok (.istore 8, 2) := by decide +kernel
theorem dX4_reckon_35 : decode cX4_reckon 35 = .ok (.aload_n 1, 1) := by decide +kernel
theorem dX4_reckon_36 : decode cX4_reckon 36 = .ok (.iload_n 3, 1) := by decide +kernel
theorem dX4_reckon_37 : decode cX4_reckon 37 = .ok (.bipush 16, 2) := by decide +kernel
theorem dX4_reckon_39 : decode cX4_reckon 39 = .ok (.iadd, 1) := by decide +kernel
theorem dX4_reckon_40 : decode cX4_reckon 40 = .ok (.iload 7, 2) := by decide +kernel
theorem dX4_reckon_42 : decode cX4_reckon 42 = .ok (.iadd, 1) := by decide +kernel
theorem dX4_reckon_43 : decode cX4_reckon 43 = .ok (.iaload, 1) := by decide +kernel
theorem dX4_reckon_44 : decode cX4_reckon 44 = .ok (.istore 9, 2) := by decide +kernel
theorem dX4_reckon_46 : decode cX4_reckon 46 = .ok (.iload 9, 2) := by decide +kernel
theorem dX4_reckon_48 : decode cX4_reckon 48 = .ok (.ifCond .le 90, 3) := by decide +kernel
theorem dX4_reckon_51 : decode cX4_reckon 51 = .ok (.aload_n 2, 1) := by decide +kernel
theorem dX4_reckon_52 : decode cX4_reckon 52 = .ok (.iload 6, 2) := by decide +kernel
theorem dX4_reckon_54 : decode cX4_reckon 54 = .ok (.iconst 1, 1) := by decide +kernel
theorem dX4_reckon_55 : decode cX4_reckon 55 = .ok (.iadd, 1) := by decide +kernel
theorem dX4_reckon_56 : decode cX4_reckon 56 = .ok (.iaload, 1) := by decide +kernel
theorem dX4_reckon_57 : decode cX4_reckon 57 = .ok (.iload 8, 2) := by decide +kernel
theorem dX4_reckon_59 : decode cX4_reckon 59 = .ok (.if_icmp .lt 79, 3) := by decide +kernel
theorem dX4_reckon_62 : decode cX4_reckon 62 = .ok (.aload_n 2, 1) := by decide +kernel
theorem dX4_reckon_63 : decode cX4_reckon 63 = .ok (.iload 6, 2) := by decide +kernel
theorem dX4_reckon_65 : decode cX4_reckon 65 = .ok (.iconst 1, 1) := by decide +kernel
theorem dX4_reckon_66 : decode cX4_reckon 66 = .ok (.iadd, 1) := by decide +kernel
theorem dX4_reckon_67 : decode cX4_reckon 67 = .ok (.dup2, 1) := by decide +kernel
theorem dX4_reckon_68 : decode cX4_reckon 68 = .ok (.iaload, 1) := by decide +kernel
theorem dX4_reckon_69 : decode cX4_reckon 69 = .ok (.iload 8, 2) := by decide +kernel
theorem dX4_reckon_71 : decode cX4_reckon 71 = .ok (.isub, 1) := by decide +kernel
theorem dX4_reckon_72 : decode cX4_reckon 72 = .ok (.iastore, 1) := by decide +kernel
theorem dX4_reckon_73 : decode cX4_reckon 73 = .ok (.aload_n 2, 1) := by decide +kernel
theorem dX4_reckon_74 : decode cX4_reckon 74 = .ok (.iload 6, 2) := by decide +kernel
theorem dX4_reckon_76 : decode cX4_reckon 76 = .ok (.iconst 3, 1) := by decide +kernel
theorem dX4_reckon_77 : decode cX4_reckon 77 = .ok (.iadd, 1) := by decide +kernel
theorem dX4_reckon_78 : decode cX4_reckon 78 = .ok (.dup2, 1) := by decide +kernel
theorem dX4_reckon_79 : decode cX4_reckon 79 = .ok (.iaload, 1) := by decide +kernel
theorem dX4_reckon_80 : decode cX4_reckon 80 = .ok (.iload 8, 2) := by decide +kernel
theorem dX4_reckon_82 : decode cX4_reckon 82 = .ok (.iadd, 1) := by decide +kernel
theorem dX4_reckon_83 : decode cX4_reckon 83 = .ok (.iastore, 1) := by decide +kernel
theorem dX4_reckon_84 : decode cX4_reckon 84 = .ok (.aload_n 2, 1) := by decide +kernel
theorem dX4_reckon_85 : decode cX4_reckon 85 = .ok (.iload 6, 2) := by decide +kernel
theorem dX4_reckon_87 : decode cX4_reckon 87 = .ok (.iconst 2, 1) := by decide +kernel
theorem dX4_reckon_88 : decode cX4_reckon 88 = .ok (.iadd, 1) := by decide +kernel
theorem dX4_reckon_89 : decode cX4_reckon 89 = .ok (.dup2, 1) := by decide +kernel
theorem dX4_reckon_90 : decode cX4_reckon 90 = .ok (.iaload, 1) := by decide +kernel
theorem dX4_reckon_91 : decode cX4_reckon 91 = .ok (.iconst 1, 1) := by decide +kernel
theorem dX4_reckon_92 : decode cX4_reckon 92 = .ok (.iadd, 1) := by decide +kernel
theorem dX4_reckon_93 : decode cX4_reckon 93 = .ok (.iastore, 1) := by decide +kernel
theorem dX4_reckon_94 : decode cX4_reckon 94 = .ok (.aload_n 1, 1) := by decide +kernel
theorem dX4_reckon_95 : decode cX4_reckon 95 = .ok (.iload_n 3, 1) := by decide +kernel
theorem dX4_reckon_96 : decode cX4_reckon 96 = .ok (.bipush 7, 2) := by decide +kernel
theorem dX4_reckon_98 : decode cX4_reckon 98 = .ok (.iadd, 1) := by decide +kernel
theorem dX4_reckon_99 : decode cX4_reckon 99 = .ok (.dup2, 1) := by decide +kernel
theorem dX4_reckon_100 : decode cX4_reckon 100 = .ok (.iaload, 1) := by decide +kernel
theorem dX4_reckon_101 : decode cX4_reckon 101 = .ok (.iload 8, 2) := by decide +kernel
theorem dX4_reckon_103 : decode cX4_reckon 103 = .ok (.iadd, 1) := by decide +kernel
theorem dX4_reckon_104 : decode cX4_reckon 104 = .ok (.iastore, 1) := by decide +kernel
theorem dX4_reckon_105 : decode cX4_reckon 105 = .ok (.aload_n 1, 1) := by decide +kernel
theorem dX4_reckon_106 : decode cX4_reckon 106 = .ok (.iload_n 3, 1) := by decide +kernel
theorem dX4_reckon_107 : decode cX4_reckon 107 = .ok (.bipush 16, 2) := by decide +kernel
theorem dX4_reckon_109 : decode cX4_reckon 109 = .ok (.iadd, 1) := by decide +kernel
theorem dX4_reckon_110 : decode cX4_reckon 110 = .ok (.iload 7, 2) := by decide +kernel
theorem dX4_reckon_112 : decode cX4_reckon 112 = .ok (.iadd, 1) := by decide +kernel
theorem dX4_reckon_113 : decode cX4_reckon 113 = .ok (.dup2, 1) := by decide +kernel
theorem dX4_reckon_114 : decode cX4_reckon 114 = .ok (.iaload, 1) := by decide +kernel
theorem dX4_reckon_115 : decode cX4_reckon 115 = .ok (.iconst 1, 1) := by decide +kernel
theorem dX4_reckon_116 : decode cX4_reckon 116 = .ok (.isub, 1) := by decide +kernel
theorem dX4_reckon_117 : decode cX4_reckon 117 = .ok (.iastore, 1) := by decide +kernel
theorem dX4_reckon_118 : decode cX4_reckon 118 = .ok (.aload 4, 2) := by decide +kernel
theorem dX4_reckon_120 : decode cX4_reckon 120 = .ok (.iload 5, 2) := by decide +kernel
theorem dX4_reckon_122 : decode cX4_reckon 122 = .ok (.dup2, 1) := by decide +kernel
theorem dX4_reckon_123 : decode cX4_reckon 123 = .ok (.iaload, 1) := by decide +kernel
theorem dX4_reckon_124 : decode cX4_reckon 124 = .ok (.getstatic 52, 3) := by decide +kernel
theorem dX4_reckon_127 : decode cX4_reckon 127 = .ok (.iload 7, 2) := by decide +kernel
theorem dX4_reckon_129 : decode cX4_reckon 129 = .ok (.iaload, 1) := by decide +kernel
theorem dX4_reckon_130 : decode cX4_reckon 130 = .ok (.iadd, 1) := by decide +kernel
theorem dX4_reckon_131 : decode cX4_reckon 131 = .ok (.iastore, 1) := by decide +kernel
theorem dX4_reckon_132 : decode cX4_reckon 132 = .ok (.iinc 9 (-1), 3) := by decide +kernel
theorem dX4_reckon_135 : decode cX4_reckon 135 = .ok (.goto (-89), 3) := by decide +kernel
theorem dX4_reckon_138 : decode cX4_reckon 138 = .ok (.iinc 7 1, 3) := by decide +kernel
theorem dX4_reckon_141 : decode cX4_reckon 141 = .ok (.goto (-125), 3) := by decide +kernel
theorem dX4_reckon_144 : decode cX4_reckon 144 = .ok (.aload_n 1, 1) := by decide +kernel
theorem dX4_reckon_145 : decode cX4_reckon 145 = .ok (.iload_n 3, 1) := by decide +kernel
theorem dX4_reckon_146 : decode cX4_reckon 146 = .ok (.bipush 7, 2) := by decide +kernel
theorem dX4_reckon_148 : decode cX4_reckon 148 = .ok (.iadd, 1) := by decide +kernel
theorem dX4_reckon_149 : decode cX4_reckon 149 = .ok (.iaload, 1) := by decide +kernel
theorem dX4_reckon_150 : decode cX4_reckon 150 = .ok (.aload_n 1, 1) := by decide +kernel
theorem dX4_reckon_151 : decode cX4_reckon 151 = .ok (.iload_n 3, 1) := by decide +kernel
theorem dX4_reckon_152 : decode cX4_reckon 152 = .ok (.bipush 8, 2) := by decide +kernel
theorem dX4_reckon_154 : decode cX4_reckon 154 = .ok (.iadd, 1) := by decide +kernel
theorem dX4_reckon_155 : decode cX4_reckon 155 = .ok (.iaload, 1) := by decide +kernel
theorem dX4_reckon_156 : decode cX4_reckon 156 = .ok (.invokestatic 36, 3) := by decide +kernel
theorem dX4_reckon_159 : decode cX4_reckon 159 = .ok (.istore 7, 2) := by decide +kernel
theorem dX4_reckon_161 : decode cX4_reckon 161 = .ok (.aload_n 1, 1) := by decide +kernel
theorem dX4_reckon_162 : decode cX4_reckon 162 = .ok (.iload_n 3, 1) := by decide +kernel
theorem dX4_reckon_163 : decode cX4_reckon 163 = .ok (.bipush 7, 2) := by decide +kernel
theorem dX4_reckon_165 : decode cX4_reckon 165 = .ok (.iadd, 1) := by decide +kernel
theorem dX4_reckon_166 : decode cX4_reckon 166 = .ok (.dup2, 1) := by decide +kernel
theorem dX4_reckon_167 : decode cX4_reckon 167 = .ok (.iaload, 1) := by decide +kernel
theorem dX4_reckon_168 : decode cX4_reckon 168 = .ok (.iload 7, 2) := by decide +kernel
theorem dX4_reckon_170 : decode cX4_reckon 170 = .ok (.isub, 1) := by decide +kernel
theorem dX4_reckon_171 : decode cX4_reckon 171 = .ok (.iastore, 1) := by decide +kernel
theorem dX4_reckon_172 : decode cX4_reckon 172 = .ok (.aload_n 1, 1) := by decide +kernel
theorem dX4_reckon_173 : decode cX4_reckon 173 = .ok (.iload_n 3, 1) := by decide +kernel
theorem dX4_reckon_174 : decode cX4_reckon 174 = .ok (.bipush 8, 2) := by decide +kernel
theorem dX4_reckon_176 : decode cX4_reckon 176 = .ok (.iadd, 1) := by decide +kernel
theorem dX4_reckon_177 : decode cX4_reckon 177 = .ok (.dup2, 1) := by decide +kernel
theorem dX4_reckon_178 : decode cX4_reckon 178 = .ok (.iaload, 1) := by decide +kernel
theorem dX4_reckon_179 : decode cX4_reckon 179 = .ok (.iload 7, 2) := by decide +kernel
theorem dX4_reckon_181 : decode cX4_reckon 181 = .ok (.isub, 1) := by decide +kernel
theorem dX4_reckon_182 : decode cX4_reckon 182 = .ok (.iastore, 1) := by decide +kernel
theorem dX4_reckon_183 : decode cX4_reckon 183 = .ok (.aload_n 2, 1) := by decide +kernel
theorem dX4_reckon_184 : decode cX4_reckon 184 = .ok (.iload 6, 2) := by decide +kernel
theorem dX4_reckon_186 : decode cX4_reckon 186 = .ok (.iconst 1, 1) := by decide +kernel
theorem dX4_reckon_187 : decode cX4_reckon 187 = .ok (.iadd, 1) := by decide +kernel
theorem dX4_reckon_188 : decode cX4_reckon 188 = .ok (.dup2, 1) := by decide +kernel
theorem dX4_reckon_189 : decode cX4_reckon 189 = .ok (.iaload, 1) := by decide +kernel
theorem dX4_reckon_190 : decode cX4_reckon 190 = .ok (.iload 7, 2) := by decide +kernel
theorem dX4_reckon_192 : decode cX4_reckon 192 = .ok (.iadd, 1) := by decide +kernel
theorem dX4_reckon_193 : decode cX4_reckon 193 = .ok (.iastore, 1) := by decide +kernel
theorem dX4_reckon_194 : decode cX4_reckon 194 = .ok (.return_, 1) := by decide +kernel
theorem dX4_pass_0 : decode cX4_pass 0 = .ok (.iconst 0, 1) := by decide +kernel
theorem dX4_pass_1 : decode cX4_pass 1 = .ok (.istore 4, 2) := by decide +kernel
theorem dX4_pass_3 : decode cX4_pass 3 = .ok (.iconst 0, 1) := by decide +kernel
theorem dX4_pass_4 : decode cX4_pass 4 = .ok (.istore 5, 2) := by decide +kernel
theorem dX4_pass_6 : decode cX4_pass 6 = .ok (.iload 5, 2) := by decide +kernel
theorem dX4_pass_8 : decode cX4_pass 8 = .ok (.aload_n 0, 1) := by decide +kernel
theorem dX4_pass_9 : decode cX4_pass 9 = .ok (.getfield 29, 3) := by decide +kernel
theorem dX4_pass_12 : decode cX4_pass 12 = .ok (.if_icmp .ge 24, 3) := by decide +kernel
theorem dX4_pass_15 : decode cX4_pass 15 = .ok (.iload 4, 2) := by decide +kernel
theorem dX4_pass_17 : decode cX4_pass 17 = .ok (.aload_n 0, 1) := by decide +kernel
theorem dX4_pass_18 : decode cX4_pass 18 = .ok (.aload_n 1, 1) := by decide +kernel
theorem dX4_pass_19 : decode cX4_pass 19 = .ok (.bipush 20, 2) := by decide +kernel
theorem dX4_pass_21 : decode cX4_pass 21 = .ok (.iload 5, 2) := by decide +kernel
theorem dX4_pass_23 : decode cX4_pass 23 = .ok (.imul, 1) := by decide +kernel
theorem dX4_pass_24 : decode cX4_pass 24 = .ok (.invokevirtual 58, 3) := by decide +kernel
theorem dX4_pass_27 : decode cX4_pass 27 = .ok (.iadd, 1) := by decide +kernel
theorem dX4_pass_28 : decode cX4_pass 28 = .ok (.istore 4, 2) := by decide +kernel
theorem dX4_pass_30 : decode cX4_pass 30 = .ok (.iinc 5 1, 3) := by decide +kernel
theorem dX4_pass_33 : decode cX4_pass 33 = .ok (.goto (-27), 3) := by decide +kernel
theorem dX4_pass_36 : decode cX4_pass 36 = .ok (.iload_n 3, 1) := by decide +kernel
theorem dX4_pass_37 : decode cX4_pass 37 = .ok (.bipush 48, 2) := by decide +kernel
theorem dX4_pass_39 : decode cX4_pass 39 = .ok (.irem, 1) := by decide +kernel
theorem dX4_pass_40 : decode cX4_pass 40 = .ok (.bipush 47, 2) := by decide +kernel
theorem dX4_pass_42 : decode cX4_pass 42 = .ok (.if_icmp .ne 110, 3) := by decide +kernel
theorem dX4_pass_45 : decode cX4_pass 45 = .ok (.iconst 0, 1) := by decide +kernel
theorem dX4_pass_46 : decode cX4_pass 46 = .ok (.istore 5, 2) := by decide +kernel
theorem dX4_pass_48 : decode cX4_pass 48 = .ok (.iload 5, 2) := by decide +kernel
theorem dX4_pass_50 : decode cX4_pass 50 = .ok (.iconst 4, 1) := by decide +kernel
theorem dX4_pass_51 : decode cX4_pass 51 = .ok (.if_icmp .ge 17, 3) := by decide +kernel
theorem dX4_pass_54 : decode cX4_pass 54 = .ok (.aload_n 0, 1) := by decide +kernel
theorem dX4_pass_55 : decode cX4_pass 55 = .ok (.getfield 26, 3) := by decide +kernel
theorem dX4_pass_58 : decode cX4_pass 58 = .ok (.iload 5, 2) := by decide +kernel
theorem dX4_pass_60 : decode cX4_pass 60 = .ok (.iconst 0, 1) := by decide +kernel
theorem dX4_pass_61 : decode cX4_pass 61 = .ok (.iastore, 1) := by decide +kernel
theorem dX4_pass_62 : decode cX4_pass 62 = .ok (.iinc 5 1, 3) := by decide +kernel
theorem dX4_pass_65 : decode cX4_pass 65 = .ok (.goto (-17), 3) := by decide +kernel
theorem dX4_pass_68 : decode cX4_pass 68 = .ok (.iconst 0, 1) := by decide +kernel
theorem dX4_pass_69 : decode cX4_pass 69 = .ok (.istore 5, 2) := by decide +kernel
theorem dX4_pass_71 : decode cX4_pass 71 = .ok (.iload 5, 2) := by decide +kernel
theorem dX4_pass_73 : decode cX4_pass 73 = .ok (.aload_n 0, 1) := by decide +kernel
theorem dX4_pass_74 : decode cX4_pass 74 = .ok (.getfield 29, 3) := by decide +kernel
theorem dX4_pass_77 : decode cX4_pass 77 = .ok (.if_icmp .ge 24, 3) := by decide +kernel
theorem dX4_pass_80 : decode cX4_pass 80 = .ok (.aload_n 0, 1) := by decide +kernel
theorem dX4_pass_81 : decode cX4_pass 81 = .ok (.aload_n 1, 1) := by decide +kernel
theorem dX4_pass_82 : decode cX4_pass 82 = .ok (.aload_n 2, 1) := by decide +kernel
theorem dX4_pass_83 : decode cX4_pass 83 = .ok (.bipush 20, 2) := by decide +kernel
theorem dX4_pass_85 : decode cX4_pass 85 = .ok (.iload 5, 2) := by decide +kernel
theorem dX4_pass_87 : decode cX4_pass 87 = .ok (.imul, 1) := by decide +kernel
theorem dX4_pass_88 : decode cX4_pass 88 = .ok (.aload_n 0, 1) := by decide +kernel
theorem dX4_pass_89 : decode cX4_pass 89 = .ok (.getfield 26, 3) := by decide +kernel
theorem dX4_pass_92 : decode cX4_pass 92 = .ok (.invokevirtual 62, 3) := by decide +kernel
theorem dX4_pass_95 : decode cX4_pass 95 = .ok (.iinc 5 1, 3) := by decide +kernel
theorem dX4_pass_98 : decode cX4_pass 98 = .ok (.goto (-27), 3) := by decide +kernel
theorem dX4_pass_101 : decode cX4_pass 101 = .ok (.iconst 0, 1) := by decide +kernel
theorem dX4_pass_102 : decode cX4_pass 102 = .ok (.istore 5, 2) := by decide +kernel
theorem dX4_pass_104 : decode cX4_pass 104 = .ok (.iload 5, 2) := by decide +kernel
theorem dX4_pass_106 : decode cX4_pass 106 = .ok (.iconst 4, 1) := by decide +kernel
theorem dX4_pass_107 : decode cX4_pass 107 = .ok (.if_icmp .ge 45, 3) := by decide +kernel
theorem dX4_pass_110 : decode cX4_pass 110 = .ok (.aload_n 2, 1) := by decide +kernel
theorem dX4_pass_111 : decode cX4_pass 111 = .ok (.iconst 5, 1) := by decide +kernel
theorem dX4_pass_112 : decode cX4_pass 112 = .ok (.iload 5, 2) := by decide +kernel
theorem dX4_pass_114 : decode cX4_pass 114 = .ok (.imul, 1) := by decide +kernel
theorem dX4_pass_115 : decode cX4_pass 115 = .ok (.iconst 1, 1) := by decide +kernel
theorem dX4_pass_116 : decode cX4_pass 116 = .ok (.iadd, 1) := by decide +kernel
theorem dX4_pass_117 : decode cX4_pass 117 = .ok (.dup2, 1) := by decide +kernel
theorem dX4_pass_118 : decode cX4_pass 118 = .ok (.iaload, 1) := by decide +kernel
theorem dX4_pass_119 : decode cX4_pass 119 = .ok (.aload_n 0, 1) := by decide +kernel
theorem dX4_pass_120 : decode cX4_pass 120 = .ok (.getfield 26, 3) := by decide +kernel
theorem dX4_pass_123 : decode cX4_pass 123 = .ok (.iload 5, 2) := by decide +kernel
theorem dX4_pass_125 : decode cX4_pass 125 = .ok (.iaload, 1) := by decide +kernel
theorem dX4_pass_126 : decode cX4_pass 126 = .ok (.iadd, 1) := by decide +kernel
theorem dX4_pass_127 : decode cX4_pass 127 = .ok (.iastore, 1) := by decide +kernel
theorem dX4_pass_128 : decode cX4_pass 128 = .ok (.aload_n 2, 1) := by decide +kernel
theorem dX4_pass_129 : decode cX4_pass 129 = .ok (.iconst 5, 1) := by decide +kernel
theorem dX4_pass_130 : decode cX4_pass 130 = .ok (.iload 5, 2) := by decide +kernel
theorem dX4_pass_132 : decode cX4_pass 132 = .ok (.imul, 1) := by decide +kernel
theorem dX4_pass_133 : decode cX4_pass 133 = .ok (.iconst 4, 1) := by decide +kernel
theorem dX4_pass_134 : decode cX4_pass 134 = .ok (.iadd, 1) := by decide +kernel
theorem dX4_pass_135 : decode cX4_pass 135 = .ok (.dup2, 1) := by decide +kernel
theorem dX4_pass_136 : decode cX4_pass 136 = .ok (.iaload, 1) := by decide +kernel
theorem dX4_pass_137 : decode cX4_pass 137 = .ok (.aload_n 0, 1) := by decide +kernel
theorem dX4_pass_138 : decode cX4_pass 138 = .ok (.getfield 26, 3) := by decide +kernel
theorem dX4_pass_141 : decode cX4_pass 141 = .ok (.iload 5, 2) := by decide +kernel
theorem dX4_pass_143 : decode cX4_pass 143 = .ok (.iaload, 1) := by decide +kernel
theorem dX4_pass_144 : decode cX4_pass 144 = .ok (.iadd, 1) := by decide +kernel
theorem dX4_pass_145 : decode cX4_pass 145 = .ok (.iastore, 1) := by decide +kernel
theorem dX4_pass_146 : decode cX4_pass 146 = .ok (.iinc 5 1, 3) := by decide +kernel
theorem dX4_pass_149 : decode cX4_pass 149 = .ok (.goto (-45), 3) := by decide +kernel
theorem dX4_pass_152 : decode cX4_pass 152 = .ok (.iload 4, 2) := by decide +kernel
theorem dX4_pass_154 : decode cX4_pass 154 = .ok (.ireturn, 1) := by decide +kernel
theorem dX4_lookAhead_0 : decode cX4_lookAhead 0 = .ok (.aload_n 0, 1) := by decide +kernel
theorem dX4_lookAhead_1 : decode cX4_lookAhead 1 = .ok (.getfield 13, 3) := by decide +kernel
theorem dX4_lookAhead_4 : decode cX4_lookAhead 4 = .ok (.iconst 0, 1) := by decide +kernel
theorem dX4_lookAhead_5 : decode cX4_lookAhead 5 = .ok (.aload_n 0, 1) := by decide +kernel
theorem dX4_lookAhead_6 : decode cX4_lookAhead 6 = .ok (.getfield 20, 3) := by decide +kernel
theorem dX4_lookAhead_9 : decode cX4_lookAhead 9 = .ok (.iconst 0, 1) := by decide +kernel
theorem dX4_lookAhead_10 : decode cX4_lookAhead 10 = .ok (.aload_n 0, 1) := by decide +kernel
theorem dX4_lookAhead_11 : decode cX4_lookAhead 11 = .ok (.getfield 13, 3) := by decide +kernel
theorem dX4_lookAhead_14 : decode cX4_lookAhead 14 = .ok (.arraylength, 1) := by decide +kernel
theorem dX4_lookAhead_15 : decode cX4_lookAhead 15 = .ok (.invokestatic 66, 3) := by decide +kernel
theorem dX4_lookAhead_18 : decode cX4_lookAhead 18 = .ok (.aload_n 0, 1) := by decide +kernel
theorem dX4_lookAhead_19 : decode cX4_lookAhead 19 = .ok (.getfield 17, 3) := by decide +kernel
theorem dX4_lookAhead_22 : decode cX4_lookAhead 22 = .ok (.iconst 0, 1) := by decide +kernel
theorem dX4_lookAhead_23 : decode cX4_lookAhead 23 = .ok (.aload_n 0, 1) := by decide +kernel
theorem dX4_lookAhead_24 : decode cX4_lookAhead 24 = .ok (.getfield 23, 3) := by decide +kernel
theorem dX4_lookAhead_27 : decode cX4_lookAhead 27 = .ok (.iconst 0, 1) := by decide +kernel
theorem dX4_lookAhead_28 : decode cX4_lookAhead 28 = .ok (.aload_n 0, 1) := by decide +kernel
theorem dX4_lookAhead_29 : decode cX4_lookAhead 29 = .ok (.getfield 17, 3) := by decide +kernel
theorem dX4_lookAhead_32 : decode cX4_lookAhead 32 = .ok (.arraylength, 1) := by decide +kernel
theorem dX4_lookAhead_33 : decode cX4_lookAhead 33 = .ok (.invokestatic 66, 3) := by decide +kernel
theorem dX4_lookAhead_36 : decode cX4_lookAhead 36 = .ok (.return_, 1) := by decide +kernel
theorem dX4_passAhead_0 : decode cX4_passAhead 0 = .ok (.iconst 0, 1) := by decide +kernel
theorem dX4_passAhead_1 : decode cX4_passAhead 1 = .ok (.istore_n 2, 1) := by decide +kernel
theorem dX4_passAhead_2 : decode cX4_passAhead 2 = .ok (.iload_n 2, 1) := by decide +kernel
theorem dX4_passAhead_3 : decode cX4_passAhead 3 = .ok (.iload_n 1, 1) := by decide +kernel
theorem dX4_passAhead_4 : decode cX4_passAhead 4 = .ok (.if_icmp .ge 28, 3) := by decide +kernel
theorem dX4_passAhead_7 : decode cX4_passAhead 7 = .ok (.aload_n 0, 1) := by decide +kernel
theorem dX4_passAhead_8 : decode cX4_passAhead 8 = .ok (.aload_n 0, 1) := by decide +kernel
theorem dX4_passAhead_9 : decode cX4_passAhead 9 = .ok (.getfield 20, 3) := by decide +kernel
theorem dX4_passAhead_12 : decode cX4_passAhead 12 = .ok (.aload_n 0, 1) := by decide +kernel
theorem dX4_passAhead_13 : decode cX4_passAhead 13 = .ok (.getfield 23, 3) := by decide +kernel
theorem dX4_passAhead_16 : decode cX4_passAhead 16 = .ok (.aload_n 0, 1) := by decide +kernel
theorem dX4_passAhead_17 : decode cX4_passAhead 17 = .ok (.getfield 72, 3) := by decide +kernel
theorem dX4_passAhead_20 : decode cX4_passAhead 20 = .ok (.iload_n 2, 1) := by decide +kernel
theorem dX4_passAhead_21 : decode cX4_passAhead 21 = .ok (.iadd, 1) := by decide +kernel
theorem dX4_passAhead_22 : decode cX4_passAhead 22 = .ok (.invokevirtual 75, 3) := by decide +kernel
theorem dX4_passAhead_25 : decode cX4_passAhead 25 = .ok (.pop, 1) := by decide +kernel
theorem dX4_passAhead_26 : decode cX4_passAhead 26 = .ok (.iinc 2 1, 3) := by decide +kernel
theorem dX4_passAhead_29 : decode cX4_passAhead 29 = .ok (.goto (-27), 3) := by decide +kernel
theorem dX4_passAhead_32 : decode cX4_passAhead 32 = .ok (.return_, 1) := by decide +kernel
theorem dX4_nailer_0 : decode cX4_nailer 0 = .ok (.aload_n 0, 1) := by decide +kernel
theorem dX4_nailer_1 : decode cX4_nailer 1 = .ok (.iconst 0, 1) := by decide +kernel
theorem dX4_nailer_2 : decode cX4_nailer 2 = .ok (.putfield 1, 3) := by decide +kernel
theorem dX4_nailer_5 : decode cX4_nailer 5 = .ok (.iload_n 2, 1) := by decide +kernel
theorem dX4_nailer_6 : decode cX4_nailer 6 = .ok (.invokestatic 79, 3) := by decide +kernel
theorem dX4_nailer_9 : decode cX4_nailer 9 = .ok (.ifCond .eq 10, 3) := by decide +kernel
theorem dX4_nailer_12 : decode cX4_nailer 12 = .ok (.iload_n 3, 1) := by decide +kernel
theorem dX4_nailer_13 : decode cX4_nailer 13 = .ok (.invokestatic 79, 3) := by decide +kernel
theorem dX4_nailer_16 : decode cX4_nailer 16 = .ok (.ifCond .ne 9, 3) := by decide +kernel
theorem dX4_nailer_19 : decode cX4_nailer 19 = .ok (.aload_n 0, 1) := by decide +kernel
theorem dX4_nailer_20 : decode cX4_nailer 20 = .ok (.iconst 1, 1) := by decide +kernel
theorem dX4_nailer_21 : decode cX4_nailer 21 = .ok (.invokevirtual 83, 3) := by decide +kernel
theorem dX4_nailer_24 : decode cX4_nailer 24 = .ok (.ireturn, 1) := by decide +kernel
theorem dX4_nailer_25 : decode cX4_nailer 25 = .ok (.iload_n 1, 1) := by decide +kernel
theorem dX4_nailer_26 : decode cX4_nailer 26 = .ok (.iconst 1, 1) := by decide +kernel
theorem dX4_nailer_27 : decode cX4_nailer 27 = .ok (.bipush 9, 2) := by decide +kernel
theorem dX4_nailer_29 : decode cX4_nailer 29 = .ok (.invokestatic 32, 3) := by decide +kernel
theorem dX4_nailer_32 : decode cX4_nailer 32 = .ok (.ifCond .ne 9, 3) := by decide +kernel
theorem dX4_nailer_35 : decode cX4_nailer 35 = .ok (.aload_n 0, 1) := by decide +kernel
theorem dX4_nailer_36 : decode cX4_nailer 36 = .ok (.iconst 2, 1) := by decide +kernel
theorem dX4_nailer_37 : decode cX4_nailer 37 = .ok (.invokevirtual 83, 3) := by decide +kernel
theorem dX4_nailer_40 : decode cX4_nailer 40 = .ok (.ireturn, 1) := by decide +kernel
theorem dX4_nailer_41 : decode cX4_nailer 41 = .ok (.aload_n 0, 1) := by decide +kernel
theorem dX4_nailer_42 : decode cX4_nailer 42 = .ok (.getfield 29, 3) := by decide +kernel
theorem dX4_nailer_45 : decode cX4_nailer 45 = .ok (.bipush 12, 2) := by decide +kernel
theorem dX4_nailer_47 : decode cX4_nailer 47 = .ok (.if_icmp .ne 9, 3) := by decide +kernel
theorem dX4_nailer_50 : decode cX4_nailer 50 = .ok (.aload_n 0, 1) := by decide +kernel
theorem dX4_nailer_51 : decode cX4_nailer 51 = .ok (.iconst 3, 1) := by decide +kernel
theorem dX4_nailer_52 : decode cX4_nailer 52 = .ok (.invokevirtual 83, 3) := by decide +kernel
theorem dX4_nailer_55 : decode cX4_nailer 55 = .ok (.ireturn, 1) := by decide +kernel
theorem dX4_nailer_56 : decode cX4_nailer 56 = .ok (.bipush 20, 2) := by decide +kernel
theorem dX4_nailer_58 : decode cX4_nailer 58 = .ok (.aload_n 0, 1) := by decide +kernel
theorem dX4_nailer_59 : decode cX4_nailer 59 = .ok (.getfield 29, 3) := by decide +kernel
theorem dX4_nailer_62 : decode cX4_nailer 62 = .ok (.imul, 1) := by decide +kernel
theorem dX4_nailer_63 : decode cX4_nailer 63 = .ok (.istore 4, 2) := by decide +kernel
theorem dX4_nailer_65 : decode cX4_nailer 65 = .ok (.aload_n 0, 1) := by decide +kernel
theorem dX4_nailer_66 : decode cX4_nailer 66 = .ok (.getfield 13, 3) := by decide +kernel
theorem dX4_nailer_69 : decode cX4_nailer 69 = .ok (.iload 4, 2) := by decide +kernel
theorem dX4_nailer_71 : decode cX4_nailer 71 = .ok (.iconst 0, 1) := by decide +kernel
theorem dX4_nailer_72 : decode cX4_nailer 72 = .ok (.iadd, 1) := by decide +kernel
theorem dX4_nailer_73 : decode cX4_nailer 73 = .ok (.iload_n 1, 1) := by decide +kernel
theorem dX4_nailer_74 : decode cX4_nailer 74 = .ok (.iastore, 1) := by decide +kernel
theorem dX4_nailer_75 : decode cX4_nailer 75 = .ok (.aload_n 0, 1) := by decide +kernel
theorem dX4_nailer_76 : decode cX4_nailer 76 = .ok (.getfield 13, 3) := by decide +kernel
theorem dX4_nailer_79 : decode cX4_nailer 79 = .ok (.iload 4, 2) := by decide +kernel
theorem dX4_nailer_81 : decode cX4_nailer 81 = .ok (.iconst 1, 1) := by decide +kernel
theorem dX4_nailer_82 : decode cX4_nailer 82 = .ok (.iadd, 1) := by decide +kernel
theorem dX4_nailer_83 : decode cX4_nailer 83 = .ok (.iload_n 2, 1) := by decide +kernel
theorem dX4_nailer_84 : decode cX4_nailer 84 = .ok (.iastore, 1) := by decide +kernel
theorem dX4_nailer_85 : decode cX4_nailer 85 = .ok (.aload_n 0, 1) := by decide +kernel
theorem dX4_nailer_86 : decode cX4_nailer 86 = .ok (.getfield 13, 3) := by decide +kernel
theorem dX4_nailer_89 : decode cX4_nailer 89 = .ok (.iload 4, 2) := by decide +kernel
theorem dX4_nailer_91 : decode cX4_nailer 91 = .ok (.iconst 2, 1) := by decide +kernel
theorem dX4_nailer_92 : decode cX4_nailer 92 = .ok (.iadd, 1) := by decide +kernel
theorem dX4_nailer_93 : decode cX4_nailer 93 = .ok (.iload_n 3, 1) := by decide +kernel
theorem dX4_nailer_94 : decode cX4_nailer 94 = .ok (.iastore, 1) := by decide +kernel
theorem dX4_nailer_95 : decode cX4_nailer 95 = .ok (.aload_n 0, 1) := by decide +kernel
theorem dX4_nailer_96 : decode cX4_nailer 96 = .ok (.getfield 13, 3) := by decide +kernel
theorem dX4_nailer_99 : decode cX4_nailer 99 = .ok (.iload 4, 2) := by decide +kernel
theorem dX4_nailer_101 : decode cX4_nailer 101 = .ok (.bipush 6, 2) := by decide +kernel
theorem dX4_nailer_103 : decode cX4_nailer 103 = .ok (.iadd, 1) := by decide +kernel
theorem dX4_nailer_104 : decode cX4_nailer 104 = .ok (.bipush 10, 2) := by decide +kernel
theorem dX4_nailer_106 : decode cX4_nailer 106 = .ok (.iastore, 1) := by decide +kernel
theorem dX4_nailer_107 : decode cX4_nailer 107 = .ok (.aload_n 0, 1) := by decide +kernel
theorem dX4_nailer_108 : decode cX4_nailer 108 = .ok (.getfield 13, 3) := by decide +kernel
theorem dX4_nailer_111 : decode cX4_nailer 111 = .ok (.iload 4, 2) := by decide +kernel
theorem dX4_nailer_113 : decode cX4_nailer 113 = .ok (.bipush 7, 2) := by decide +kernel
theorem dX4_nailer_115 : decode cX4_nailer 115 = .ok (.iadd, 1) := by decide +kernel
theorem dX4_nailer_116 : decode cX4_nailer 116 = .ok (.iconst 5, 1) := by decide +kernel
theorem dX4_nailer_117 : decode cX4_nailer 117 = .ok (.iastore, 1) := by decide +kernel
theorem dX4_nailer_118 : decode cX4_nailer 118 = .ok (.aload_n 0, 1) := by decide +kernel
theorem dX4_nailer_119 : decode cX4_nailer 119 = .ok (.dup, 1) := by decide +kernel
theorem dX4_nailer_120 : decode cX4_nailer 120 = .ok (.getfield 29, 3) := by decide +kernel
theorem dX4_nailer_123 : decode cX4_nailer 123 = .ok (.iconst 1, 1) := by decide +kernel
theorem dX4_nailer_124 : decode cX4_nailer 124 = .ok (.iadd, 1) := by decide +kernel
theorem dX4_nailer_125 : decode cX4_nailer 125 = .ok (.putfield 29, 3) := by decide +kernel
theorem dX4_nailer_128 : decode cX4_nailer 128 = .ok (.aload_n 0, 1) := by decide +kernel
theorem dX4_nailer_129 : decode cX4_nailer 129 = .ok (.getfield 29, 3) := by decide +kernel
theorem dX4_nailer_132 : decode cX4_nailer 132 = .ok (.iconst 1, 1) := by decide +kernel
theorem dX4_nailer_133 : decode cX4_nailer 133 = .ok (.isub, 1) := by decide +kernel
theorem dX4_nailer_134 : decode cX4_nailer 134 = .ok (.ireturn, 1) := by decide +kernel
theorem dX4_lend_0 : decode cX4_lend 0 = .ok (.aload_n 0, 1) := by decide +kernel
theorem dX4_lend_1 : decode cX4_lend 1 = .ok (.iconst 0, 1) := by decide +kernel
theorem dX4_lend_2 : decode cX4_lend 2 = .ok (.putfield 1, 3) := by decide +kernel
theorem dX4_lend_5 : decode cX4_lend 5 = .ok (.aload_n 0, 1) := by decide +kernel
theorem dX4_lend_6 : decode cX4_lend 6 = .ok (.iload_n 1, 1) := by decide +kernel
theorem dX4_lend_7 : decode cX4_lend 7 = .ok (.invokevirtual 87, 3) := by decide +kernel
theorem dX4_lend_10 : decode cX4_lend 10 = .ok (.ifCond .ne 9, 3) := by decide +kernel
theorem dX4_lend_13 : decode cX4_lend 13 = .ok (.aload_n 0, 1) := by decide +kernel
theorem dX4_lend_14 : decode cX4_lend 14 = .ok (.iconst 1, 1) := by decide +kernel
theorem dX4_lend_15 : decode cX4_lend 15 = .ok (.invokevirtual 83, 3) := by decide +kernel
theorem dX4_lend_18 : decode cX4_lend 18 = .ok (.ireturn, 1) := by decide +kernel
theorem dX4_lend_19 : decode cX4_lend 19 = .ok (.iload_n 2, 1) := by decide +kernel
theorem dX4_lend_20 : decode cX4_lend 20 = .ok (.iconst 1, 1) := by decide +kernel
theorem dX4_lend_21 : decode cX4_lend 21 = .ok (.bipush 20, 2) := by decide +kernel
theorem dX4_lend_23 : decode cX4_lend 23 = .ok (.invokestatic 32, 3) := by decide +kernel
theorem dX4_lend_26 : decode cX4_lend 26 = .ok (.ifCond .ne 9, 3) := by decide +kernel
theorem dX4_lend_29 : decode cX4_lend 29 = .ok (.aload_n 0, 1) := by decide +kernel
theorem dX4_lend_30 : decode cX4_lend 30 = .ok (.iconst 2, 1) := by decide +kernel
theorem dX4_lend_31 : decode cX4_lend 31 = .ok (.invokevirtual 83, 3) := by decide +kernel
theorem dX4_lend_34 : decode cX4_lend 34 = .ok (.ireturn, 1) := by decide +kernel
theorem dX4_lend_35 : decode cX4_lend 35 = .ok (.bipush 20, 2) := by decide +kernel
theorem dX4_lend_37 : decode cX4_lend 37 = .ok (.iload_n 1, 1) := by decide +kernel
theorem dX4_lend_38 : decode cX4_lend 38 = .ok (.imul, 1) := by decide +kernel
theorem dX4_lend_39 : decode cX4_lend 39 = .ok (.istore_n 3, 1) := by decide +kernel
theorem dX4_lend_40 : decode cX4_lend 40 = .ok (.aload_n 0, 1) := by decide +kernel
theorem dX4_lend_41 : decode cX4_lend 41 = .ok (.getfield 13, 3) := by decide +kernel
theorem dX4_lend_44 : decode cX4_lend 44 = .ok (.iload_n 3, 1) := by decide +kernel
theorem dX4_lend_45 : decode cX4_lend 45 = .ok (.bipush 8, 2) := by decide +kernel
theorem dX4_lend_47 : decode cX4_lend 47 = .ok (.iadd, 1) := by decide +kernel
theorem dX4_lend_48 : decode cX4_lend 48 = .ok (.iaload, 1) := by decide +kernel
theorem dX4_lend_49 : decode cX4_lend 49 = .ok (.iconst 3, 1) := by decide +kernel
theorem dX4_lend_50 : decode cX4_lend 50 = .ok (.iload_n 2, 1) := by decide +kernel
theorem dX4_lend_51 : decode cX4_lend 51 = .ok (.imul, 1) := by decide +kernel
theorem dX4_lend_52 : decode cX4_lend 52 = .ok (.iadd, 1) := by decide +kernel
theorem dX4_lend_53 : decode cX4_lend 53 = .ok (.bipush 90, 2) := by decide +kernel
theorem dX4_lend_55 : decode cX4_lend 55 = .ok (.if_icmp .le 9, 3) := by decide +kernel
theorem dX4_lend_58 : decode cX4_lend 58 = .ok (.aload_n 0, 1) := by decide +kernel
theorem dX4_lend_59 : decode cX4_lend 59 = .ok (.iconst 3, 1) := by decide +kernel
theorem dX4_lend_60 : decode cX4_lend 60 = .ok (.invokevirtual 83, 3) := by decide +kernel
theorem dX4_lend_63 : decode cX4_lend 63 = .ok (.ireturn, 1) := by decide +kernel
theorem dX4_lend_64 : decode cX4_lend 64 = .ok (.aload_n 0, 1) := by decide +kernel
theorem dX4_lend_65 : decode cX4_lend 65 = .ok (.getfield 13, 3) := by decide +kernel
theorem dX4_lend_68 : decode cX4_lend 68 = .ok (.iload_n 3, 1) := by decide +kernel
theorem dX4_lend_69 : decode cX4_lend 69 = .ok (.bipush 8, 2) := by decide +kernel
theorem dX4_lend_71 : decode cX4_lend 71 = .ok (.iadd, 1) := by decide +kernel
theorem dX4_lend_72 : decode cX4_lend 72 = .ok (.dup2, 1) := by decide +kernel
theorem dX4_lend_73 : decode cX4_lend 73 = .ok (.iaload, 1) := by decide +kernel
theorem dX4_lend_74 : decode cX4_lend 74 = .ok (.iconst 3, 1) := by decide +kernel
theorem dX4_lend_75 : decode cX4_lend 75 = .ok (.iload_n 2, 1) := by decide +kernel
theorem dX4_lend_76 : decode cX4_lend 76 = .ok (.imul, 1) := by decide +kernel
theorem dX4_lend_77 : decode cX4_lend 77 = .ok (.iadd, 1) := by decide +kernel
theorem dX4_lend_78 : decode cX4_lend 78 = .ok (.iastore, 1) := by decide +kernel
theorem dX4_lend_79 : decode cX4_lend 79 = .ok (.aload_n 0, 1) := by decide +kernel
theorem dX4_lend_80 : decode cX4_lend 80 = .ok (.getfield 13, 3) := by decide +kernel
theorem dX4_lend_83 : decode cX4_lend 83 = .ok (.iload_n 3, 1) := by decide +kernel
theorem dX4_lend_84 : decode cX4_lend 84 = .ok (.iconst 3, 1) := by decide +kernel
theorem dX4_lend_85 : decode cX4_lend 85 = .ok (.iadd, 1) := by decide +kernel
theorem dX4_lend_86 : decode cX4_lend 86 = .ok (.dup2, 1) := by decide +kernel
theorem dX4_lend_87 : decode cX4_lend 87 = .ok (.iaload, 1) := by decide +kernel
theorem dX4_lend_88 : decode cX4_lend 88 = .ok (.iload_n 2, 1) := by decide +kernel
theorem dX4_lend_89 : decode cX4_lend 89 = .ok (.iadd, 1) := by decide +kernel
theorem dX4_lend_90 : decode cX4_lend 90 = .ok (.iastore, 1) := by decide +kernel
theorem dX4_lend_91 : decode cX4_lend 91 = .ok (.aload_n 0, 1) := by decide +kernel
theorem dX4_lend_92 : decode cX4_lend 92 = .ok (.getfield 13, 3) := by decide +kernel
theorem dX4_lend_95 : decode cX4_lend 95 = .ok (.iload_n 3, 1) := by decide +kernel
theorem dX4_lend_96 : decode cX4_lend 96 = .ok (.bipush 8, 2) := by decide +kernel
theorem dX4_lend_98 : decode cX4_lend 98 = .ok (.iadd, 1) := by decide +kernel
theorem dX4_lend_99 : decode cX4_lend 99 = .ok (.iaload, 1) := by decide +kernel
theorem dX4_lend_100 : decode cX4_lend 100 = .ok (.ireturn, 1) := by decide +kernel
theorem dX4_coal_0 : decode cX4_coal 0 = .ok (.aload_n 0, 1) := by decide +kernel
theorem dX4_coal_1 : decode cX4_coal 1 = .ok (.iconst 0, 1) := by decide +kernel
theorem dX4_coal_2 : decode cX4_coal 2 = .ok (.putfield 1, 3) := by decide +kernel
theorem dX4_coal_5 : decode cX4_coal 5 = .ok (.aload_n 0, 1) := by decide +kernel
theorem dX4_coal_6 : decode cX4_coal 6 = .ok (.iload_n 1, 1) := by decide +kernel
theorem dX4_coal_7 : decode cX4_coal 7 = .ok (.invokevirtual 87, 3) := by decide +kernel
theorem dX4_coal_10 : decode cX4_coal 10 = .ok (.ifCond .ne 9, 3) := by decide +kernel
theorem dX4_coal_13 : decode cX4_coal 13 = .ok (.aload_n 0, 1) := by decide +kernel
theorem dX4_coal_14 : decode cX4_coal 14 = .ok (.iconst 1, 1) := by decide +kernel
theorem dX4_coal_15 : decode cX4_coal 15 = .ok (.invokevirtual 83, 3) := by decide +kernel
theorem dX4_coal_18 : decode cX4_coal 18 = .ok (.ireturn, 1) := by decide +kernel
theorem dX4_coal_19 : decode cX4_coal 19 = .ok (.iload_n 2, 1) := by decide +kernel
theorem dX4_coal_20 : decode cX4_coal 20 = .ok (.iconst 1, 1) := by decide +kernel
theorem dX4_coal_21 : decode cX4_coal 21 = .ok (.bipush 99, 2) := by decide +kernel
theorem dX4_coal_23 : decode cX4_coal 23 = .ok (.invokestatic 32, 3) := by decide +kernel
theorem dX4_coal_26 : decode cX4_coal 26 = .ok (.ifCond .ne 9, 3) := by decide +kernel
theorem dX4_coal_29 : decode cX4_coal 29 = .ok (.aload_n 0, 1) := by decide +kernel
theorem dX4_coal_30 : decode cX4_coal 30 = .ok (.iconst 2, 1) := by decide +kernel
theorem dX4_coal_31 : decode cX4_coal 31 = .ok (.invokevirtual 83, 3) := by decide +kernel
theorem dX4_coal_34 : decode cX4_coal 34 = .ok (.ireturn, 1) := by decide +kernel
theorem dX4_coal_35 : decode cX4_coal 35 = .ok (.bipush 20, 2) := by decide +kernel
theorem dX4_coal_37 : decode cX4_coal 37 = .ok (.iload_n 1, 1) := by decide +kernel
theorem dX4_coal_38 : decode cX4_coal 38 = .ok (.imul, 1) := by decide +kernel
theorem dX4_coal_39 : decode cX4_coal 39 = .ok (.istore_n 3, 1) := by decide +kernel
theorem dX4_coal_40 : decode cX4_coal 40 = .ok (.iload_n 2, 1) := by decide +kernel
theorem dX4_coal_41 : decode cX4_coal 41 = .ok (.iconst 3, 1) := by decide +kernel
theorem dX4_coal_42 : decode cX4_coal 42 = .ok (.iadd, 1) := by decide +kernel
theorem dX4_coal_43 : decode cX4_coal 43 = .ok (.iconst 4, 1) := by decide +kernel
theorem dX4_coal_44 : decode cX4_coal 44 = .ok (.idiv, 1) := by decide +kernel
theorem dX4_coal_45 : decode cX4_coal 45 = .ok (.istore 4, 2) := by decide +kernel
theorem dX4_coal_47 : decode cX4_coal 47 = .ok (.aload_n 0, 1) := by decide +kernel
theorem dX4_coal_48 : decode cX4_coal 48 = .ok (.getfield 13, 3) := by decide +kernel
theorem dX4_coal_51 : decode cX4_coal 51 = .ok (.iload_n 3, 1) := by decide +kernel
theorem dX4_coal_52 : decode cX4_coal 52 = .ok (.bipush 7, 2) := by decide +kernel
theorem dX4_coal_54 : decode cX4_coal 54 = .ok (.iadd, 1) := by decide +kernel
theorem dX4_coal_55 : decode cX4_coal 55 = .ok (.iaload, 1) := by decide +kernel
theorem dX4_coal_56 : decode cX4_coal 56 = .ok (.iload 4, 2) := by decide +kernel
theorem dX4_coal_58 : decode cX4_coal 58 = .ok (.if_icmp .lt 19, 3) := by decide +kernel
theorem dX4_coal_61 : decode cX4_coal 61 = .ok (.aload_n 0, 1) := by decide +kernel
theorem dX4_coal_62 : decode cX4_coal 62 = .ok (.getfield 13, 3) := by decide +kernel
theorem dX4_coal_65 : decode cX4_coal 65 = .ok (.iload_n 3, 1) := by decide +kernel
theorem dX4_coal_66 : decode cX4_coal 66 = .ok (.bipush 6, 2) := by decide +kernel
theorem dX4_coal_68 : decode cX4_coal 68 = .ok (.iadd, 1) := by decide +kernel
theorem dX4_coal_69 : decode cX4_coal 69 = .ok (.iaload, 1) := by decide +kernel
theorem dX4_coal_70 : decode cX4_coal 70 = .ok (.iload_n 2, 1) := by decide +kernel
theorem dX4_coal_71 : decode cX4_coal 71 = .ok (.iadd, 1) := by decide +kernel
theorem dX4_coal_72 : decode cX4_coal 72 = .ok (.bipush 99, 2) := by decide +kernel
theorem dX4_coal_74 : decode cX4_coal 74 = .ok (.if_icmp .le 9, 3) := by decide +kernel
theorem dX4_coal_77 : decode cX4_coal 77 = .ok (.aload_n 0, 1) := by decide +kernel
theorem dX4_coal_78 : decode cX4_coal 78 = .ok (.iconst 3, 1) := by decide +kernel
theorem dX4_coal_79 : decode cX4_coal 79 = .ok (.invokevirtual 83, 3) := by decide +kernel
theorem dX4_coal_82 : decode cX4_coal 82 = .ok (.ireturn, 1) := by decide +kernel
theorem dX4_coal_83 : decode cX4_coal 83 = .ok (.aload_n 0, 1) := by decide +kernel
theorem dX4_coal_84 : decode cX4_coal 84 = .ok (.getfield 13, 3) := by decide +kernel
theorem dX4_coal_87 : decode cX4_coal 87 = .ok (.iload_n 3, 1) := by decide +kernel
theorem dX4_coal_88 : decode cX4_coal 88 = .ok (.bipush 7, 2) := by decide +kernel
theorem dX4_coal_90 : decode cX4_coal 90 = .ok (.iadd, 1) := by decide +kernel
theorem dX4_coal_91 : decode cX4_coal 91 = .ok (.dup2, 1) := by decide +kernel
theorem dX4_coal_92 : decode cX4_coal 92 = .ok (.iaload, 1) := by decide +kernel
theorem dX4_coal_93 : decode cX4_coal 93 = .ok (.iload 4, 2) := by decide +kernel
theorem dX4_coal_95 : decode cX4_coal 95 = .ok (.isub, 1) := by decide +kernel
theorem dX4_coal_96 : decode cX4_coal 96 = .ok (.iastore, 1) := by decide +kernel
theorem dX4_coal_97 : decode cX4_coal 97 = .ok (.aload_n 0, 1) := by decide +kernel
theorem dX4_coal_98 : decode cX4_coal 98 = .ok (.getfield 13, 3) := by decide +kernel
theorem dX4_coal_101 : decode cX4_coal 101 = .ok (.iload_n 3, 1) := by decide +kernel
theorem dX4_coal_102 : decode cX4_coal 102 = .ok (.bipush 6, 2) := by decide +kernel
theorem dX4_coal_104 : decode cX4_coal 104 = .ok (.iadd, 1) := by decide +kernel
theorem dX4_coal_105 : decode cX4_coal 105 = .ok (.dup2, 1) := by decide +kernel
theorem dX4_coal_106 : decode cX4_coal 106 = .ok (.iaload, 1) := by decide +kernel
theorem dX4_coal_107 : decode cX4_coal 107 = .ok (.iload_n 2, 1) := by decide +kernel
theorem dX4_coal_108 : decode cX4_coal 108 = .ok (.iadd, 1) := by decide +kernel
theorem dX4_coal_109 : decode cX4_coal 109 = .ok (.iastore, 1) := by decide +kernel
theorem dX4_coal_110 : decode cX4_coal 110 = .ok (.aload_n 0, 1) := by decide +kernel
theorem dX4_coal_111 : decode cX4_coal 111 = .ok (.getfield 13, 3) := by decide +kernel
theorem dX4_coal_114 : decode cX4_coal 114 = .ok (.iload_n 3, 1) := by decide +kernel
theorem dX4_coal_115 : decode cX4_coal 115 = .ok (.bipush 6, 2) := by decide +kernel
theorem dX4_coal_117 : decode cX4_coal 117 = .ok (.iadd, 1) := by decide +kernel
theorem dX4_coal_118 : decode cX4_coal 118 = .ok (.iaload, 1) := by decide +kernel
theorem dX4_coal_119 : decode cX4_coal 119 = .ok (.ireturn, 1) := by decide +kernel
theorem dX4_put_0 : decode cX4_put 0 = .ok (.aload_n 0, 1) := by decide +kernel
theorem dX4_put_1 : decode cX4_put 1 = .ok (.getfield 13, 3) := by decide +kernel
theorem dX4_put_4 : decode cX4_put 4 = .ok (.iload_n 1, 1) := by decide +kernel
theorem dX4_put_5 : decode cX4_put 5 = .ok (.iaload, 1) := by decide +kernel
theorem dX4_put_6 : decode cX4_put 6 = .ok (.istore_n 3, 1) := by decide +kernel
theorem dX4_put_7 : decode cX4_put 7 = .ok (.aload_n 0, 1) := by decide +kernel
theorem dX4_put_8 : decode cX4_put 8 = .ok (.getfield 13, 3) := by decide +kernel
theorem dX4_put_11 : decode cX4_put 11 = .ok (.iload_n 1, 1) := by decide +kernel
theorem dX4_put_12 : decode cX4_put 12 = .ok (.iload_n 2, 1) := by decide +kernel
theorem dX4_put_13 : decode cX4_put 13 = .ok (.iastore, 1) := by decide +kernel
theorem dX4_put_14 : decode cX4_put 14 = .ok (.iload_n 3, 1) := by decide +kernel
theorem dX4_put_15 : decode cX4_put 15 = .ok (.ireturn, 1) := by decide +kernel
theorem dX4_make_0 : decode cX4_make 0 = .ok (.aload_n 0, 1) := by decide +kernel
theorem dX4_make_1 : decode cX4_make 1 = .ok (.iconst 0, 1) := by decide +kernel
theorem dX4_make_2 : decode cX4_make 2 = .ok (.putfield 1, 3) := by decide +kernel
theorem dX4_make_5 : decode cX4_make 5 = .ok (.aload_n 0, 1) := by decide +kernel
theorem dX4_make_6 : decode cX4_make 6 = .ok (.iload_n 1, 1) := by decide +kernel
theorem dX4_make_7 : decode cX4_make 7 = .ok (.invokevirtual 87, 3) := by decide +kernel
theorem dX4_make_10 : decode cX4_make 10 = .ok (.ifCond .eq 24, 3) := by decide +kernel
theorem dX4_make_13 : decode cX4_make 13 = .ok (.iload_n 2, 1) := by decide +kernel
theorem dX4_make_14 : decode cX4_make 14 = .ok (.invokestatic 79, 3) := by decide +kernel
theorem dX4_make_17 : decode cX4_make 17 = .ok (.ifCond .eq 17, 3) := by decide +kernel
theorem dX4_make_20 : decode cX4_make 20 = .ok (.aload_n 0, 1) := by decide +kernel
theorem dX4_make_21 : decode cX4_make 21 = .ok (.bipush 20, 2) := by decide +kernel
theorem dX4_make_23 : decode cX4_make 23 = .ok (.iload_n 1, 1) := by decide +kernel
theorem dX4_make_24 : decode cX4_make 24 = .ok (.imul, 1) := by decide +kernel
theorem dX4_make_25 : decode cX4_make 25 = .ok (.iconst 1, 1) := by decide +kernel
theorem dX4_make_26 : decode cX4_make 26 = .ok (.iadd, 1) := by decide +kernel
theorem dX4_make_27 : decode cX4_make 27 = .ok (.iload_n 2, 1) := by decide +kernel
theorem dX4_make_28 : decode cX4_make 28 = .ok (.invokevirtual 90, 3) := by decide +kernel
theorem dX4_make_31 : decode cX4_make 31 = .ok (.goto 8, 3) := by decide +kernel
theorem dX4_make_34 : decode cX4_make 34 = .ok (.aload_n 0, 1) := by decide +kernel
