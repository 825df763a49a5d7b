/-! THE TABLES' WORDS, one by one, by their places: gtb holds all that stay good for every callee -/
def gtb : List Cond := lw_tbl.filter goodWord
theorem gtb_hts {args : Array Value} {s : State} (h : ∀ w ∈ lw_tbl, w.before args s = true) : ∀ w ∈ gtb, w.before args s = true := fun w hw => h w (List.mem_filter.mp hw).1
theorem gt0 {w : Cond} (i : Nat) (h : (k2_sels lw_privs)[i]? = some w) (hg : goodWord w = true) : w ∈ gtb := List.mem_filter.mpr ⟨List.mem_append_left _ (List.mem_of_getElem? h), hg⟩
theorem gt1 {w : Cond} (i : Nat) (h : tables_1_1[i]? = some w) (hg : goodWord w = true) : w ∈ gtb := List.mem_filter.mpr ⟨List.mem_append_right _ (List.mem_append_left _ (List.mem_of_getElem? h)), hg⟩
theorem gt2 {w : Cond} (i : Nat) (h : tables_1_2[i]? = some w) (hg : goodWord w = true) : w ∈ gtb := List.mem_filter.mpr ⟨List.mem_append_right _ (List.mem_append_right _ (List.mem_of_getElem? h)), hg⟩
/-- a method's words: its code, and the tables' -/
theorem gtb_in {w0 w1 : Cond} (h : w1 ∈ gtb) : GoodIn (w0 :: gtb) (w1 :: gtb) := by
  intro w hw
  have key : ∀ w ∈ gtb, w ∈ w0 :: gtb ∧ ((w.onTables && w.keeps) = true ∨ ∃ ty, w = .arrayClass ty) := fun w hw => ⟨List.mem_cons_of_mem _ hw, good_of_word (List.mem_filter.mp hw).2⟩
  rcases List.mem_cons.mp hw with rfl | hw
  · exact key _ h
  · exact key _ hw
theorem gtb_law {w1 : Cond} (h : w1 ∈ gtb) : GoodIn lw_tbl (w1 :: gtb) := by
  intro w hw
  have key : ∀ w ∈ gtb, w ∈ lw_tbl ∧ ((w.onTables && w.keeps) = true ∨ ∃ ty, w = .arrayClass ty) := fun w hw => ⟨(List.mem_filter.mp hw).1, good_of_word (List.mem_filter.mp hw).2⟩
  rcases List.mem_cons.mp hw with rfl | hw
  · exact key _ h
  · exact key _ hw
theorem k_0 : Cond.initialized RL ∈ gtb := gt1 0 (by decide +kernel) rfl
theorem k_1 : Cond.initialized RX3 ∈ gtb := gt1 1 (by decide +kernel) rfl
theorem k_2 : Cond.initialized RX2 ∈ gtb := gt1 2 (by decide +kernel) rfl
theorem k_3 : Cond.initialized RX1 ∈ gtb := gt1 3 (by decide +kernel) rfl
theorem k_4 : Cond.initialized RX0 ∈ gtb := gt1 4 (by decide +kernel) rfl
theorem k_5 : Cond.initialized "java/lang/Throwable" ∈ gtb := gt1 5 (by decide +kernel) rfl
theorem k_6 : Cond.initialized "java/lang/Exception" ∈ gtb := gt1 6 (by decide +kernel) rfl
theorem k_7 : Cond.initialized "java/lang/RuntimeException" ∈ gtb := gt1 7 (by decide +kernel) rfl
theorem k_8 : Cond.initialized "java/lang/IndexOutOfBoundsException" ∈ gtb := gt1 8 (by decide +kernel) rfl
theorem k_9 : Cond.initialized "java/lang/IllegalArgumentException" ∈ gtb := gt1 9 (by decide +kernel) rfl
theorem k_10 : Cond.initialized "java/lang/IllegalStateException" ∈ gtb := gt1 10 (by decide +kernel) rfl
theorem k_11 : Cond.initialized "java/lang/Math" ∈ gtb := gt1 11 (by decide +kernel) rfl
theorem k_12 : Cond.methodLink RL 26 yX3_lend ∈ gtb := gt1 12 (by decide +kernel) rfl
theorem k_13 : Cond.instanceMethod yX3_lend ∈ gtb := gt1 13 (by decide +kernel) rfl
theorem k_14 : Cond.selects RX3 yX3_lend yX3_lend ∈ gtb := gt1 14 (by decide +kernel) rfl
theorem k_15 : Cond.code yX3_lend cX3_lend 5 (some FieldType.int) ∈ gtb := gt1 15 (by decide +kernel) rfl
theorem k_16 : Cond.methodLink RX3 52 yX3_needNailer ∈ gtb := gt1 16 (by decide +kernel) rfl
theorem k_18 : Cond.instanceMethod yX3_needNailer ∈ gtb := gt1 18 (by decide +kernel) rfl
theorem k_19 : Cond.instantiable RX3 3 ∈ gtb := gt1 19 (by decide +kernel) rfl
theorem k_20 : Cond.code yX3_needNailer cX3_needNailer 2 none ∈ gtb := gt1 20 (by decide +kernel) rfl
theorem k_21 : Cond.methodLink RX3 26 yX3_needIndex ∈ gtb := gt1 21 (by decide +kernel) rfl
theorem k_22 : Cond.static yX3_needIndex ∈ gtb := gt1 22 (by decide +kernel) rfl
theorem k_23 : Cond.code yX3_needIndex cX3_needIndex 2 none ∈ gtb := gt1 23 (by decide +kernel) rfl
theorem k_24 : Cond.classLink RX3 117 "java/lang/IndexOutOfBoundsException" ∈ gtb := gt1 24 (by decide +kernel) rfl
theorem k_25 : Cond.instantiable "java/lang/IndexOutOfBoundsException" 6 ∈ gtb := gt1 25 (by decide +kernel) rfl
theorem k_33 : Cond.selects "java/lang/IndexOutOfBoundsException" ⟨"java/lang/Throwable", "fillInStackTrace", "(I)Ljava/lang/Throwable;"⟩ ⟨"java/lang/Throwable", "fillInStackTrace", "(I)Ljava/lang/Throwable;"⟩ ∈ gtb := gt1 33 (by decide +kernel) rfl
theorem k_34 : Cond.selects "java/lang/IndexOutOfBoundsException" ⟨"java/lang/Throwable", "fillInStackTrace", "()Ljava/lang/Throwable;"⟩ ⟨"java/lang/Throwable", "fillInStackTrace", "()Ljava/lang/Throwable;"⟩ ∈ gtb := gt1 34 (by decide +kernel) rfl
theorem k_35 : Cond.lays "java/lang/IndexOutOfBoundsException" "java/lang/Throwable" "cause" "Ljava/lang/Throwable;" ∈ gtb := gt1 35 (by decide +kernel) rfl
theorem k_36 : Cond.lays "java/lang/Throwable" "java/lang/Throwable" "cause" "Ljava/lang/Throwable;" ∈ gtb := gt1 36 (by decide +kernel) rfl
theorem k_37 : Cond.lays "java/lang/IndexOutOfBoundsException" "java/lang/Throwable" "stackTrace" "[Ljava/lang/StackTraceElement;" ∈ gtb := gt1 37 (by decide +kernel) rfl
theorem k_38 : Cond.lays "java/lang/Throwable" "java/lang/Throwable" "stackTrace" "[Ljava/lang/StackTraceElement;" ∈ gtb := gt1 38 (by decide +kernel) rfl
theorem k_39 : Cond.lays "java/lang/IndexOutOfBoundsException" "java/lang/Throwable" "suppressedExceptions" "Ljava/util/List;" ∈ gtb := gt1 39 (by decide +kernel) rfl
theorem k_40 : Cond.lays "java/lang/Throwable" "java/lang/Throwable" "suppressedExceptions" "Ljava/util/List;" ∈ gtb := gt1 40 (by decide +kernel) rfl
theorem k_41 : Cond.lays "java/lang/IndexOutOfBoundsException" "java/lang/Throwable" "detailMessage" "Ljava/lang/String;" ∈ gtb := gt1 41 (by decide +kernel) rfl
theorem k_42 : Cond.lays "java/lang/Throwable" "java/lang/Throwable" "detailMessage" "Ljava/lang/String;" ∈ gtb := gt1 42 (by decide +kernel) rfl
theorem k_43 : Cond.lays "java/lang/IndexOutOfBoundsException" "java/lang/Throwable" "backtrace" "Ljava/lang/Object;" ∈ gtb := gt1 43 (by decide +kernel) rfl
theorem k_44 : Cond.lays "java/lang/Throwable" "java/lang/Throwable" "backtrace" "Ljava/lang/Object;" ∈ gtb := gt1 44 (by decide +kernel) rfl
theorem k_45 : Cond.fieldLink "java/lang/Throwable" 198 "java/lang/Throwable" "backtrace" "Ljava/lang/Object;" ∈ gtb := gt1 45 (by decide +kernel) rfl
theorem k_47 : Cond.instanceMethod ⟨"java/lang/Throwable", "<init>", "()V"⟩ ∈ gtb := gt1 47 (by decide +kernel) rfl
theorem k_48 : Cond.code ⟨"java/lang/Throwable", "<init>", "()V"⟩ prog_14_method_1_code 1 none ∈ gtb := gt1 48 (by decide +kernel) rfl
theorem k_49 : Cond.methodLink "java/lang/Throwable" 1 objectInit ∈ gtb := gt1 49 (by decide +kernel) rfl
theorem k_50 : Cond.instanceMethod objectInit ∈ gtb := gt1 50 (by decide +kernel) rfl
theorem k_51 : Cond.code objectInit object_method_1_code 1 none ∈ gtb := gt1 51 (by decide +kernel) rfl
theorem k_52 : Cond.fieldLink "java/lang/Throwable" 13 "java/lang/Throwable" "UNASSIGNED_STACK" "[Ljava/lang/StackTraceElement;" ∈ gtb := gt1 52 (by decide +kernel) rfl
theorem k_54 : Cond.fieldLink "java/lang/Throwable" 20 "java/lang/Throwable" "SUPPRESSED_SENTINEL" "Ljava/util/List;" ∈ gtb := gt1 54 (by decide +kernel) rfl
theorem k_56 : Cond.methodLink "java/lang/Throwable" 27 ⟨"java/lang/Throwable", "fillInStackTrace", "()Ljava/lang/Throwable;"⟩ ∈ gtb := gt1 56 (by decide +kernel) rfl
theorem k_57 : Cond.instanceMethod ⟨"java/lang/Throwable", "fillInStackTrace", "()Ljava/lang/Throwable;"⟩ ∈ gtb := gt1 57 (by decide +kernel) rfl
theorem k_59 : Cond.selects "java/lang/IllegalArgumentException" ⟨"java/lang/Throwable", "fillInStackTrace", "()Ljava/lang/Throwable;"⟩ ⟨"java/lang/Throwable", "fillInStackTrace", "()Ljava/lang/Throwable;"⟩ ∈ gtb := gt1 59 (by decide +kernel) rfl
theorem k_60 : Cond.selects "java/lang/IllegalStateException" ⟨"java/lang/Throwable", "fillInStackTrace", "()Ljava/lang/Throwable;"⟩ ⟨"java/lang/Throwable", "fillInStackTrace", "()Ljava/lang/Throwable;"⟩ ∈ gtb := gt1 60 (by decide +kernel) rfl
theorem k_62 : Cond.methodLink "java/lang/Throwable" 202 ⟨"java/lang/Throwable", "fillInStackTrace", "(I)Ljava/lang/Throwable;"⟩ ∈ gtb := gt1 62 (by decide +kernel) rfl
theorem k_64 : Cond.instanceMethod ⟨"java/lang/Throwable", "fillInStackTrace", "(I)Ljava/lang/Throwable;"⟩ ∈ gtb := gt1 64 (by decide +kernel) rfl
theorem k_65 : Cond.instantiable "java/lang/Throwable" 6 ∈ gtb := gt1 65 (by decide +kernel) rfl
theorem k_66 : Cond.native ⟨"java/lang/Throwable", "fillInStackTrace", "(I)Ljava/lang/Throwable;"⟩ ∈ gtb := gt1 66 (by decide +kernel) rfl
theorem k_68 : Cond.methodLink RX3 121 ⟨"java/lang/IndexOutOfBoundsException", "<init>", "(Ljava/lang/String;)V"⟩ ∈ gtb := gt1 68 (by decide +kernel) rfl
theorem k_69 : Cond.instanceMethod ⟨"java/lang/IndexOutOfBoundsException", "<init>", "(Ljava/lang/String;)V"⟩ ∈ gtb := gt1 69 (by decide +kernel) rfl
theorem k_70 : Cond.code ⟨"java/lang/IndexOutOfBoundsException", "<init>", "(Ljava/lang/String;)V"⟩ prog_10_method_2_code 2 none ∈ gtb := gt1 70 (by decide +kernel) rfl
theorem k_71 : Cond.methodLink "java/lang/IndexOutOfBoundsException" 7 ⟨"java/lang/RuntimeException", "<init>", "(Ljava/lang/String;)V"⟩ ∈ gtb := gt1 71 (by decide +kernel) rfl
theorem k_72 : Cond.instanceMethod ⟨"java/lang/RuntimeException", "<init>", "(Ljava/lang/String;)V"⟩ ∈ gtb := gt1 72 (by decide +kernel) rfl
theorem k_73 : Cond.code ⟨"java/lang/RuntimeException", "<init>", "(Ljava/lang/String;)V"⟩ prog_12_method_2_code 2 none ∈ gtb := gt1 73 (by decide +kernel) rfl
theorem k_74 : Cond.methodLink "java/lang/RuntimeException" 7 ⟨"java/lang/Exception", "<init>", "(Ljava/lang/String;)V"⟩ ∈ gtb := gt1 74 (by decide +kernel) rfl
theorem k_75 : Cond.instanceMethod ⟨"java/lang/Exception", "<init>", "(Ljava/lang/String;)V"⟩ ∈ gtb := gt1 75 (by decide +kernel) rfl
theorem k_76 : Cond.code ⟨"java/lang/Exception", "<init>", "(Ljava/lang/String;)V"⟩ prog_7_method_2_code 2 none ∈ gtb := gt1 76 (by decide +kernel) rfl
theorem k_77 : Cond.methodLink "java/lang/Exception" 7 ⟨"java/lang/Throwable", "<init>", "(Ljava/lang/String;)V"⟩ ∈ gtb := gt1 77 (by decide +kernel) rfl
theorem k_78 : Cond.instanceMethod ⟨"java/lang/Throwable", "<init>", "(Ljava/lang/String;)V"⟩ ∈ gtb := gt1 78 (by decide +kernel) rfl
theorem k_79 : Cond.code ⟨"java/lang/Throwable", "<init>", "(Ljava/lang/String;)V"⟩ prog_14_method_2_code 2 none ∈ gtb := gt1 79 (by decide +kernel) rfl
theorem k_81 : Cond.fieldLink "java/lang/Throwable" 31 "java/lang/Throwable" "detailMessage" "Ljava/lang/String;" ∈ gtb := gt1 81 (by decide +kernel) rfl
theorem k_82 : Cond.fieldLink "java/lang/Throwable" 7 "java/lang/Throwable" "cause" "Ljava/lang/Throwable;" ∈ gtb := gt1 82 (by decide +kernel) rfl
theorem k_83 : Cond.fieldLink "java/lang/Throwable" 17 "java/lang/Throwable" "stackTrace" "[Ljava/lang/StackTraceElement;" ∈ gtb := gt1 83 (by decide +kernel) rfl
theorem k_84 : Cond.fieldLink "java/lang/Throwable" 24 "java/lang/Throwable" "suppressedExceptions" "Ljava/util/List;" ∈ gtb := gt1 84 (by decide +kernel) rfl
theorem k_89 : Cond.lays "java/lang/IndexOutOfBoundsException" "java/lang/Throwable" "depth" "I" ∈ gtb := gt1 89 (by decide +kernel) rfl
theorem k_93 : Cond.arrayClass FieldType.byte ∈ gtb := gt1 93 (by decide +kernel) rfl
theorem k_94 : Cond.methodLink RX3 30 yX3_needWithin ∈ gtb := gt1 94 (by decide +kernel) rfl
theorem k_95 : Cond.static yX3_needWithin ∈ gtb := gt1 95 (by decide +kernel) rfl
theorem k_96 : Cond.code yX3_needWithin cX3_needWithin 3 none ∈ gtb := gt1 96 (by decide +kernel) rfl
theorem k_97 : Cond.classLink RX3 141 "java/lang/IllegalArgumentException" ∈ gtb := gt1 97 (by decide +kernel) rfl
theorem k_98 : Cond.instantiable "java/lang/IllegalArgumentException" 6 ∈ gtb := gt1 98 (by decide +kernel) rfl
theorem k_100 : Cond.selects "java/lang/IllegalArgumentException" ⟨"java/lang/Throwable", "fillInStackTrace", "(I)Ljava/lang/Throwable;"⟩ ⟨"java/lang/Throwable", "fillInStackTrace", "(I)Ljava/lang/Throwable;"⟩ ∈ gtb := gt1 100 (by decide +kernel) rfl
theorem k_101 : Cond.lays "java/lang/IllegalArgumentException" "java/lang/Throwable" "cause" "Ljava/lang/Throwable;" ∈ gtb := gt1 101 (by decide +kernel) rfl
theorem k_102 : Cond.lays "java/lang/IllegalArgumentException" "java/lang/Throwable" "stackTrace" "[Ljava/lang/StackTraceElement;" ∈ gtb := gt1 102 (by decide +kernel) rfl
theorem k_103 : Cond.lays "java/lang/IllegalArgumentException" "java/lang/Throwable" "suppressedExceptions" "Ljava/util/List;" ∈ gtb := gt1 103 (by decide +kernel) rfl
theorem k_104 : Cond.lays "java/lang/IllegalArgumentException" "java/lang/Throwable" "detailMessage" "Ljava/lang/String;" ∈ gtb := gt1 104 (by decide +kernel) rfl
theorem k_105 : Cond.lays "java/lang/IllegalArgumentException" "java/lang/Throwable" "backtrace" "Ljava/lang/Object;" ∈ gtb := gt1 105 (by decide +kernel) rfl
theorem k_107 : Cond.methodLink RX3 145 ⟨"java/lang/IllegalArgumentException", "<init>", "(Ljava/lang/String;)V"⟩ ∈ gtb := gt1 107 (by decide +kernel) rfl
theorem k_108 : Cond.instanceMethod ⟨"java/lang/IllegalArgumentException", "<init>", "(Ljava/lang/String;)V"⟩ ∈ gtb := gt1 108 (by decide +kernel) rfl
theorem k_109 : Cond.code ⟨"java/lang/IllegalArgumentException", "<init>", "(Ljava/lang/String;)V"⟩ prog_8_method_2_code 2 none ∈ gtb := gt1 109 (by decide +kernel) rfl
theorem k_110 : Cond.methodLink "java/lang/IllegalArgumentException" 7 ⟨"java/lang/RuntimeException", "<init>", "(Ljava/lang/String;)V"⟩ ∈ gtb := gt1 110 (by decide +kernel) rfl
theorem k_111 : Cond.lays "java/lang/IllegalArgumentException" "java/lang/Throwable" "depth" "I" ∈ gtb := gt1 111 (by decide +kernel) rfl
theorem k_113 : Cond.classLink RX3 38 "java/lang/IllegalStateException" ∈ gtb := gt1 113 (by decide +kernel) rfl
theorem k_114 : Cond.instantiable "java/lang/IllegalStateException" 6 ∈ gtb := gt1 114 (by decide +kernel) rfl
theorem k_116 : Cond.selects "java/lang/IllegalStateException" ⟨"java/lang/Throwable", "fillInStackTrace", "(I)Ljava/lang/Throwable;"⟩ ⟨"java/lang/Throwable", "fillInStackTrace", "(I)Ljava/lang/Throwable;"⟩ ∈ gtb := gt1 116 (by decide +kernel) rfl
theorem k_117 : Cond.lays "java/lang/IllegalStateException" "java/lang/Throwable" "cause" "Ljava/lang/Throwable;" ∈ gtb := gt1 117 (by decide +kernel) rfl
theorem k_118 : Cond.lays "java/lang/IllegalStateException" "java/lang/Throwable" "stackTrace" "[Ljava/lang/StackTraceElement;" ∈ gtb := gt1 118 (by decide +kernel) rfl
theorem k_119 : Cond.lays "java/lang/IllegalStateException" "java/lang/Throwable" "suppressedExceptions" "Ljava/util/List;" ∈ gtb := gt1 119 (by decide +kernel) rfl
theorem k_120 : Cond.lays "java/lang/IllegalStateException" "java/lang/Throwable" "detailMessage" "Ljava/lang/String;" ∈ gtb := gt1 120 (by decide +kernel) rfl
theorem k_121 : Cond.lays "java/lang/IllegalStateException" "java/lang/Throwable" "backtrace" "Ljava/lang/Object;" ∈ gtb := gt1 121 (by decide +kernel) rfl
theorem k_123 : Cond.methodLink RX3 42 ⟨"java/lang/IllegalStateException", "<init>", "(Ljava/lang/String;)V"⟩ ∈ gtb := gt1 123 (by decide +kernel) rfl
theorem k_124 : Cond.instanceMethod ⟨"java/lang/IllegalStateException", "<init>", "(Ljava/lang/String;)V"⟩ ∈ gtb := gt1 124 (by decide +kernel) rfl
theorem k_125 : Cond.code ⟨"java/lang/IllegalStateException", "<init>", "(Ljava/lang/String;)V"⟩ prog_9_method_2_code 2 none ∈ gtb := gt1 125 (by decide +kernel) rfl
theorem k_126 : Cond.methodLink "java/lang/IllegalStateException" 7 ⟨"java/lang/RuntimeException", "<init>", "(Ljava/lang/String;)V"⟩ ∈ gtb := gt1 126 (by decide +kernel) rfl
theorem k_127 : Cond.lays "java/lang/IllegalStateException" "java/lang/Throwable" "depth" "I" ∈ gtb := gt1 127 (by decide +kernel) rfl
theorem k_129 : Cond.methodLink RL 29 yX3_coal ∈ gtb := gt1 129 (by decide +kernel) rfl
theorem k_130 : Cond.instanceMethod yX3_coal ∈ gtb := gt1 130 (by decide +kernel) rfl
theorem k_131 : Cond.selects RX3 yX3_coal yX3_coal ∈ gtb := gt1 131 (by decide +kernel) rfl
theorem k_132 : Cond.code yX3_coal cX3_coal 5 (some FieldType.int) ∈ gtb := gt1 132 (by decide +kernel) rfl
theorem k_134 : Cond.methodLink RL 39 yX3_told ∈ gtb := gt1 134 (by decide +kernel) rfl
theorem k_135 : Cond.instanceMethod yX3_told ∈ gtb := gt1 135 (by decide +kernel) rfl
theorem k_136 : Cond.selects RX3 yX3_told yX3_told ∈ gtb := gt1 136 (by decide +kernel) rfl
theorem k_137 : Cond.code yX3_told cX3_told 3 (some FieldType.int) ∈ gtb := gt1 137 (by decide +kernel) rfl
theorem k_140 : Cond.instanceMethod yX1_number ∈ gtb := gt1 140 (by decide +kernel) rfl
theorem k_141 : Cond.instantiable RX1 14 ∈ gtb := gt1 141 (by decide +kernel) rfl
theorem k_142 : Cond.code yX1_number cX1_number 2 (some FieldType.int) ∈ gtb := gt1 142 (by decide +kernel) rfl
theorem k_143 : Cond.methodLink RL 66 yX3_nails ∈ gtb := gt1 143 (by decide +kernel) rfl
theorem k_144 : Cond.instanceMethod yX3_nails ∈ gtb := gt1 144 (by decide +kernel) rfl
theorem k_145 : Cond.selects RX3 yX3_nails yX3_nails ∈ gtb := gt1 145 (by decide +kernel) rfl
theorem k_146 : Cond.code yX3_nails cX3_nails 5 (some FieldType.int) ∈ gtb := gt1 146 (by decide +kernel) rfl
theorem k_147 : Cond.methodLink RL 32 yX3_keep ∈ gtb := gt1 147 (by decide +kernel) rfl
theorem k_148 : Cond.instanceMethod yX3_keep ∈ gtb := gt1 148 (by decide +kernel) rfl
theorem k_149 : Cond.selects RX3 yX3_keep yX3_keep ∈ gtb := gt1 149 (by decide +kernel) rfl
theorem k_150 : Cond.code yX3_keep cX3_keep 4 (some FieldType.int) ∈ gtb := gt1 150 (by decide +kernel) rfl
theorem k_151 : Cond.methodLink RL 69 yX3_fogger ∈ gtb := gt1 151 (by decide +kernel) rfl
theorem k_152 : Cond.instanceMethod yX3_fogger ∈ gtb := gt1 152 (by decide +kernel) rfl
theorem k_153 : Cond.selects RX3 yX3_fogger yX3_fogger ∈ gtb := gt1 153 (by decide +kernel) rfl
theorem k_154 : Cond.code yX3_fogger cX3_fogger 3 (some FieldType.int) ∈ gtb := gt1 154 (by decide +kernel) rfl
theorem k_157 : Cond.instanceMethod yX2_foggerNumber ∈ gtb := gt1 157 (by decide +kernel) rfl
theorem k_158 : Cond.instantiable RX2 4 ∈ gtb := gt1 158 (by decide +kernel) rfl
theorem k_159 : Cond.code yX2_foggerNumber cX2_foggerNumber 3 (some FieldType.int) ∈ gtb := gt1 159 (by decide +kernel) rfl
theorem k_160 : Cond.methodLink RX2 80 yX2_workersFor ∈ gtb := gt1 160 (by decide +kernel) rfl
theorem k_162 : Cond.instanceMethod yX2_workersFor ∈ gtb := gt1 162 (by decide +kernel) rfl
theorem k_163 : Cond.code yX2_workersFor cX2_workersFor 4 (some FieldType.int) ∈ gtb := gt1 163 (by decide +kernel) rfl
theorem k_164 : Cond.methodLink RL 59 yX3_count ∈ gtb := gt1 164 (by decide +kernel) rfl
theorem k_165 : Cond.instanceMethod yX3_count ∈ gtb := gt1 165 (by decide +kernel) rfl
theorem k_166 : Cond.selects RX3 yX3_count yX3_count ∈ gtb := gt1 166 (by decide +kernel) rfl
theorem k_167 : Cond.code yX3_count cX3_count 2 (some FieldType.int) ∈ gtb := gt1 167 (by decide +kernel) rfl
theorem k_170 : Cond.instanceMethod yX2_total ∈ gtb := gt1 170 (by decide +kernel) rfl
theorem k_171 : Cond.code yX2_total cX2_total 2 (some FieldType.int) ∈ gtb := gt1 171 (by decide +kernel) rfl
theorem k_172 : Cond.methodLink RX2 61 yX2_warehouseBags ∈ gtb := gt1 172 (by decide +kernel) rfl
theorem k_174 : Cond.instanceMethod yX2_warehouseBags ∈ gtb := gt1 174 (by decide +kernel) rfl
theorem k_175 : Cond.code yX2_warehouseBags cX2_warehouseBags 3 (some FieldType.int) ∈ gtb := gt1 175 (by decide +kernel) rfl
theorem k_176 : Cond.methodLink RX2 64 yX2_sumOfShares ∈ gtb := gt1 176 (by decide +kernel) rfl
theorem k_178 : Cond.instanceMethod yX2_sumOfShares ∈ gtb := gt1 178 (by decide +kernel) rfl
theorem k_179 : Cond.code yX2_sumOfShares cX2_sumOfShares 4 (some FieldType.int) ∈ gtb := gt1 179 (by decide +kernel) rfl
theorem k_182 : Cond.instanceMethod yX1_shareOfTotal ∈ gtb := gt1 182 (by decide +kernel) rfl
theorem k_183 : Cond.code yX1_shareOfTotal cX1_shareOfTotal 2 (some FieldType.int) ∈ gtb := gt1 183 (by decide +kernel) rfl
theorem k_184 : Cond.methodLink RX1 85 yX1_sumOf ∈ gtb := gt1 184 (by decide +kernel) rfl
theorem k_185 : Cond.static yX1_sumOf ∈ gtb := gt1 185 (by decide +kernel) rfl
theorem k_186 : Cond.code yX1_sumOf cX1_sumOf 6 (some FieldType.int) ∈ gtb := gt1 186 (by decide +kernel) rfl
theorem k_187 : Cond.methodLink RL 56 yX3_pass ∈ gtb := gt1 187 (by decide +kernel) rfl
theorem k_188 : Cond.instanceMethod yX3_pass ∈ gtb := gt1 188 (by decide +kernel) rfl
theorem k_189 : Cond.selects RX3 yX3_pass yX3_pass ∈ gtb := gt1 189 (by decide +kernel) rfl
theorem k_190 : Cond.code yX3_pass cX3_pass 2 (some FieldType.int) ∈ gtb := gt1 190 (by decide +kernel) rfl
theorem k_193 : Cond.instanceMethod yX2_goBy ∈ gtb := gt1 193 (by decide +kernel) rfl
theorem k_194 : Cond.code yX2_goBy cX2_goBy 4 (some FieldType.int) ∈ gtb := gt1 194 (by decide +kernel) rfl
theorem k_195 : Cond.methodLink RX2 39 yX2_goByOne ∈ gtb := gt1 195 (by decide +kernel) rfl
theorem k_197 : Cond.instanceMethod yX2_goByOne ∈ gtb := gt1 197 (by decide +kernel) rfl
theorem k_198 : Cond.code yX2_goByOne cX2_goByOne 3 (some FieldType.int) ∈ gtb := gt1 198 (by decide +kernel) rfl
theorem k_201 : Cond.instanceMethod yX1_workHour ∈ gtb := gt1 201 (by decide +kernel) rfl
theorem k_202 : Cond.code yX1_workHour cX1_workHour 3 (some FieldType.int) ∈ gtb := gt1 202 (by decide +kernel) rfl
theorem k_203 : Cond.methodLink RX1 59 yX1_tendFire ∈ gtb := gt1 203 (by decide +kernel) rfl
theorem k_205 : Cond.instanceMethod yX1_tendFire ∈ gtb := gt1 205 (by decide +kernel) rfl
theorem k_206 : Cond.code yX1_tendFire cX1_tendFire 1 none ∈ gtb := gt1 206 (by decide +kernel) rfl
theorem k_207 : Cond.methodLink RX1 70 Lib.Math.min.name ∈ gtb := gt1 207 (by decide +kernel) rfl
theorem k_208 : Cond.static Lib.Math.min.name ∈ gtb := gt1 208 (by decide +kernel) rfl
theorem k_209 : Cond.code Lib.Math.min.name cJ9_min_7cf53 2 (some FieldType.int) ∈ gtb := gt1 209 (by decide +kernel) rfl
theorem k_210 : Cond.methodLink RX1 76 Lib.Math.max.name ∈ gtb := gt1 210 (by decide +kernel) rfl
theorem k_211 : Cond.static Lib.Math.max.name ∈ gtb := gt1 211 (by decide +kernel) rfl
theorem k_212 : Cond.code Lib.Math.max.name cJ9_max_7cf53 2 (some FieldType.int) ∈ gtb := gt1 212 (by decide +kernel) rfl
theorem k_213 : Cond.methodLink RX1 62 yX1_head ∈ gtb := gt1 213 (by decide +kernel) rfl
theorem k_215 : Cond.instanceMethod yX1_head ∈ gtb := gt1 215 (by decide +kernel) rfl
theorem k_216 : Cond.code yX1_head cX1_head 3 (some FieldType.int) ∈ gtb := gt1 216 (by decide +kernel) rfl
theorem k_217 : Cond.methodLink RX1 79 yX1_headFromHand ∈ gtb := gt1 217 (by decide +kernel) rfl
theorem k_219 : Cond.instanceMethod yX1_headFromHand ∈ gtb := gt1 219 (by decide +kernel) rfl
theorem k_220 : Cond.code yX1_headFromHand cX1_headFromHand 3 (some FieldType.int) ∈ gtb := gt1 220 (by decide +kernel) rfl
theorem k_223 : Cond.methodLink RX1 66 yX1_store ∈ gtb := gt1 223 (by decide +kernel) rfl
theorem k_225 : Cond.instanceMethod yX1_store ∈ gtb := gt1 225 (by decide +kernel) rfl
theorem k_226 : Cond.code yX1_store cX1_store 2 none ∈ gtb := gt1 226 (by decide +kernel) rfl
theorem k_227 : Cond.methodLink RX2 46 yX2_reckonWeek ∈ gtb := gt1 227 (by decide +kernel) rfl
theorem k_229 : Cond.instanceMethod yX2_reckonWeek ∈ gtb := gt1 229 (by decide +kernel) rfl
theorem k_230 : Cond.code yX2_reckonWeek cX2_reckonWeek 3 none ∈ gtb := gt1 230 (by decide +kernel) rfl
theorem k_233 : Cond.instanceMethod yX0_buyBags ∈ gtb := gt1 233 (by decide +kernel) rfl
theorem k_234 : Cond.instantiable RX0 6 ∈ gtb := gt1 234 (by decide +kernel) rfl
theorem k_235 : Cond.code yX0_buyBags cX0_buyBags 4 none ∈ gtb := gt1 235 (by decide +kernel) rfl
theorem k_240 : Cond.instanceMethod yX0_collectDebt ∈ gtb := gt2 0 (by decide +kernel) rfl
theorem k_241 : Cond.code yX0_collectDebt cX0_collectDebt 3 none ∈ gtb := gt2 1 (by decide +kernel) rfl
theorem k_242 : Cond.methodLink RX0 43 Lib.Math.min.name ∈ gtb := gt2 2 (by decide +kernel) rfl
theorem k_245 : Cond.instanceMethod yX0_deliver ∈ gtb := gt2 5 (by decide +kernel) rfl
theorem k_246 : Cond.code yX0_deliver cX0_deliver 1 none ∈ gtb := gt2 6 (by decide +kernel) rfl
theorem k_247 : Cond.methodLink RL 49 yX3_rate ∈ gtb := gt2 7 (by decide +kernel) rfl
theorem k_248 : Cond.instanceMethod yX3_rate ∈ gtb := gt2 8 (by decide +kernel) rfl
theorem k_249 : Cond.selects RX3 yX3_rate yX3_rate ∈ gtb := gt2 9 (by decide +kernel) rfl
theorem k_250 : Cond.code yX3_rate cX3_rate 2 (some FieldType.int) ∈ gtb := gt2 10 (by decide +kernel) rfl
theorem k_253 : Cond.instanceMethod yX1_copyFrom ∈ gtb := gt2 13 (by decide +kernel) rfl
theorem k_254 : Cond.code yX1_copyFrom cX1_copyFrom 3 none ∈ gtb := gt2 14 (by decide +kernel) rfl
theorem k_257 : Cond.instanceMethod yX1_workHours ∈ gtb := gt2 17 (by decide +kernel) rfl
theorem k_258 : Cond.code yX1_workHours cX1_workHours 4 (some FieldType.int) ∈ gtb := gt2 18 (by decide +kernel) rfl
theorem k_259 : Cond.methodLink RX1 55 yX1_workHour ∈ gtb := gt2 19 (by decide +kernel) rfl
theorem k_260 : Cond.methodLink RL 46 yX3_foresee ∈ gtb := gt2 20 (by decide +kernel) rfl
theorem k_261 : Cond.instanceMethod yX3_foresee ∈ gtb := gt2 21 (by decide +kernel) rfl
theorem k_262 : Cond.selects RX3 yX3_foresee yX3_foresee ∈ gtb := gt2 22 (by decide +kernel) rfl
theorem k_263 : Cond.code yX3_foresee cX3_foresee 3 (some FieldType.int) ∈ gtb := gt2 23 (by decide +kernel) rfl
theorem k_267 : Cond.instanceMethod yX2_copyFrom ∈ gtb := gt2 27 (by decide +kernel) rfl
theorem k_268 : Cond.code yX2_copyFrom cX2_copyFrom 3 none ∈ gtb := gt2 28 (by decide +kernel) rfl
theorem k_272 : Cond.instanceMethod yX0_copyFrom ∈ gtb := gt2 32 (by decide +kernel) rfl
theorem k_273 : Cond.code yX0_copyFrom cX0_copyFrom 2 none ∈ gtb := gt2 33 (by decide +kernel) rfl
theorem k_274 : Cond.methodLink RL 53 yX3_advise ∈ gtb := gt2 34 (by decide +kernel) rfl
theorem k_275 : Cond.instanceMethod yX3_advise ∈ gtb := gt2 35 (by decide +kernel) rfl
theorem k_276 : Cond.selects RX3 yX3_advise yX3_advise ∈ gtb := gt2 36 (by decide +kernel) rfl
theorem k_277 : Cond.code yX3_advise cX3_advise 7 (some FieldType.int) ∈ gtb := gt2 37 (by decide +kernel) rfl
theorem k_278 : Cond.fieldLink RX3 125 "NailRods" "WORTH" "[I" ∈ gtb := gt2 38 (by decide +kernel) rfl
theorem k_279 : Cond.methodLink RL 72 yX3_richest ∈ gtb := gt2 39 (by decide +kernel) rfl
theorem k_280 : Cond.instanceMethod yX3_richest ∈ gtb := gt2 40 (by decide +kernel) rfl
theorem k_281 : Cond.selects RX3 yX3_richest yX3_richest ∈ gtb := gt2 41 (by decide +kernel) rfl
theorem k_282 : Cond.code yX3_richest cX3_richest 5 (some FieldType.int) ∈ gtb := gt2 42 (by decide +kernel) rfl
theorem k_283 : Cond.methodLink RL 42 yX3_digest ∈ gtb := gt2 43 (by decide +kernel) rfl
theorem k_284 : Cond.instanceMethod yX3_digest ∈ gtb := gt2 44 (by decide +kernel) rfl
theorem k_285 : Cond.selects RX3 yX3_digest yX3_digest ∈ gtb := gt2 45 (by decide +kernel) rfl
theorem k_286 : Cond.code yX3_digest cX3_digest 5 (some FieldType.long) ∈ gtb := gt2 46 (by decide +kernel) rfl
theorem k_287 : Cond.constantLong RX3 131 1259 ∈ gtb := gt2 47 (by decide +kernel) rfl
theorem k_288 : Cond.constantLong RX3 133 31 ∈ gtb := gt2 48 (by decide +kernel) rfl
theorem k_291 : Cond.instanceMethod yX1_addToDigest ∈ gtb := gt2 51 (by decide +kernel) rfl
theorem k_292 : Cond.code yX1_addToDigest cX1_addToDigest 6 (some FieldType.long) ∈ gtb := gt2 52 (by decide +kernel) rfl
theorem k_293 : Cond.constantLong RX1 89 31 ∈ gtb := gt2 53 (by decide +kernel) rfl
theorem k_294 : Cond.methodLink RX1 91 yX1_number ∈ gtb := gt2 54 (by decide +kernel) rfl
theorem k_295 : Cond.methodLink RL 18 yL_below ∈ gtb := gt2 55 (by decide +kernel) rfl
theorem k_296 : Cond.static yL_below ∈ gtb := gt2 56 (by decide +kernel) rfl
theorem k_297 : Cond.code yL_below cL_below 2 (some FieldType.int) ∈ gtb := gt2 57 (by decide +kernel) rfl
theorem k_298 : Cond.constant RL 7 2147483647 ∈ gtb := gt2 58 (by decide +kernel) rfl
theorem k_299 : Cond.methodLink RL 12 yL_cell ∈ gtb := gt2 59 (by decide +kernel) rfl
theorem k_300 : Cond.static yL_cell ∈ gtb := gt2 60 (by decide +kernel) rfl
theorem k_301 : Cond.code yL_cell cL_cell 2 (some FieldType.int) ∈ gtb := gt2 61 (by decide +kernel) rfl
theorem k_302 : Cond.constant RL 8 461243603 ∈ gtb := gt2 62 (by decide +kernel) rfl
theorem k_303 : Cond.methodLink RL 35 yL_makers ∈ gtb := gt2 63 (by decide +kernel) rfl
theorem k_304 : Cond.static yL_makers ∈ gtb := gt2 64 (by decide +kernel) rfl
theorem k_305 : Cond.code yL_makers cL_makers 4 (Option.some (FieldType.object "NailRods")) ∈ gtb := gt2 65 (by decide +kernel) rfl
theorem k_306 : Cond.classLink RL 9 RX3 ∈ gtb := gt2 66 (by decide +kernel) rfl
theorem k_307 : Cond.methodLink RL 11 yX3_init ∈ gtb := gt2 67 (by decide +kernel) rfl
theorem k_308 : Cond.instanceMethod yX3_init ∈ gtb := gt2 68 (by decide +kernel) rfl
theorem k_309 : Cond.code yX3_init cX3_init 1 none ∈ gtb := gt2 69 (by decide +kernel) rfl
theorem k_310 : Cond.methodLink RX3 1 objectInit ∈ gtb := gt2 70 (by decide +kernel) rfl
theorem k_311 : Cond.classLink RX3 7 RX2 ∈ gtb := gt2 71 (by decide +kernel) rfl
theorem k_313 : Cond.instanceMethod yX2_init ∈ gtb := gt2 73 (by decide +kernel) rfl
theorem k_314 : Cond.code yX2_init cX2_init 2 none ∈ gtb := gt2 74 (by decide +kernel) rfl
theorem k_315 : Cond.methodLink RX2 3 objectInit ∈ gtb := gt2 75 (by decide +kernel) rfl
theorem k_316 : Cond.classLink RX2 9 RX1 ∈ gtb := gt2 76 (by decide +kernel) rfl
theorem k_319 : Cond.instanceMethod yX1_init ∈ gtb := gt2 79 (by decide +kernel) rfl
theorem k_320 : Cond.code yX1_init cX1_init 1 none ∈ gtb := gt2 80 (by decide +kernel) rfl
theorem k_321 : Cond.methodLink RX1 3 objectInit ∈ gtb := gt2 81 (by decide +kernel) rfl
theorem k_322 : Cond.fieldLink RX1 25 "NailRods$Nailer" "skill" "I" ∈ gtb := gt2 82 (by decide +kernel) rfl
theorem k_323 : Cond.fieldLink RX1 28 "NailRods$Nailer" "kind" "I" ∈ gtb := gt2 83 (by decide +kernel) rfl
theorem k_325 : Cond.fieldLink RX1 31 "NailRods$Nailer" "fogger" "I" ∈ gtb := gt2 85 (by decide +kernel) rfl
theorem k_327 : Cond.fieldLink RX1 34 "NailRods$Nailer" "rods" "I" ∈ gtb := gt2 87 (by decide +kernel) rfl
theorem k_329 : Cond.fieldLink RX1 37 "NailRods$Nailer" "ounces" "I" ∈ gtb := gt2 89 (by decide +kernel) rfl
theorem k_330 : Cond.fieldLink RX1 40 "NailRods$Nailer" "heat" "I" ∈ gtb := gt2 90 (by decide +kernel) rfl
theorem k_331 : Cond.fieldLink RX1 9 "NailRods$Nailer" "coal" "I" ∈ gtb := gt2 91 (by decide +kernel) rfl
theorem k_333 : Cond.fieldLink RX1 15 "NailRods$Nailer" "coins" "I" ∈ gtb := gt2 93 (by decide +kernel) rfl
theorem k_337 : Cond.fieldLink RX1 43 "NailRods$Nailer" "owed" "I" ∈ gtb := gt2 97 (by decide +kernel) rfl
theorem k_339 : Cond.fieldLink RX1 46 "NailRods$Nailer" "scrap" "I" ∈ gtb := gt2 99 (by decide +kernel) rfl
theorem k_340 : Cond.fieldLink RX1 49 "NailRods$Nailer" "burnt" "I" ∈ gtb := gt2 100 (by decide +kernel) rfl
theorem k_341 : Cond.fieldLink RX1 52 "NailRods$Nailer" "good" "I" ∈ gtb := gt2 101 (by decide +kernel) rfl
theorem k_342 : Cond.fieldLink RX1 18 "NailRods$Nailer" "loose" "[I" ∈ gtb := gt2 102 (by decide +kernel) rfl
theorem k_344 : Cond.fieldLink RX1 22 "NailRods$Nailer" "bags" "[I" ∈ gtb := gt2 104 (by decide +kernel) rfl
theorem k_347 : Cond.lays "NailRods$Nailer" "NailRods$Nailer" "skill" "I" ∈ gtb := gt2 107 (by decide +kernel) rfl
theorem k_349 : Cond.lays "NailRods$Nailer" "NailRods$Nailer" "kind" "I" ∈ gtb := gt2 109 (by decide +kernel) rfl
theorem k_351 : Cond.lays "NailRods$Nailer" "NailRods$Nailer" "fogger" "I" ∈ gtb := gt2 111 (by decide +kernel) rfl
theorem k_353 : Cond.lays "NailRods$Nailer" "NailRods$Nailer" "rods" "I" ∈ gtb := gt2 113 (by decide +kernel) rfl
theorem k_355 : Cond.lays "NailRods$Nailer" "NailRods$Nailer" "ounces" "I" ∈ gtb := gt2 115 (by decide +kernel) rfl
theorem k_357 : Cond.lays "NailRods$Nailer" "NailRods$Nailer" "heat" "I" ∈ gtb := gt2 117 (by decide +kernel) rfl
theorem k_359 : Cond.lays "NailRods$Nailer" "NailRods$Nailer" "coal" "I" ∈ gtb := gt2 119 (by decide +kernel) rfl
theorem k_361 : Cond.lays "NailRods$Nailer" "NailRods$Nailer" "coins" "I" ∈ gtb := gt2 121 (by decide +kernel) rfl
theorem k_363 : Cond.lays "NailRods$Nailer" "NailRods$Nailer" "owed" "I" ∈ gtb := gt2 123 (by decide +kernel) rfl
theorem k_365 : Cond.lays "NailRods$Nailer" "NailRods$Nailer" "scrap" "I" ∈ gtb := gt2 125 (by decide +kernel) rfl
theorem k_367 : Cond.lays "NailRods$Nailer" "NailRods$Nailer" "burnt" "I" ∈ gtb := gt2 127 (by decide +kernel) rfl
theorem k_369 : Cond.lays "NailRods$Nailer" "NailRods$Nailer" "good" "I" ∈ gtb := gt2 129 (by decide +kernel) rfl
theorem k_371 : Cond.laysFinal "NailRods$Nailer" "NailRods$Nailer" "loose" "[I" ∈ gtb := gt2 131 (by decide +kernel) rfl
theorem k_373 : Cond.laysFinal "NailRods$Nailer" "NailRods$Nailer" "bags" "[I" ∈ gtb := gt2 133 (by decide +kernel) rfl
theorem k_376 : Cond.arrayClass FieldType.int ∈ gtb := gt2 136 (by decide +kernel) rfl
theorem k_377 : Cond.classLink RX2 18 RX0 ∈ gtb := gt2 137 (by decide +kernel) rfl
theorem k_380 : Cond.instanceMethod yX0_init ∈ gtb := gt2 140 (by decide +kernel) rfl
theorem k_381 : Cond.code yX0_init cX0_init 1 none ∈ gtb := gt2 141 (by decide +kernel) rfl
theorem k_382 : Cond.methodLink RX0 3 objectInit ∈ gtb := gt2 142 (by decide +kernel) rfl
theorem k_383 : Cond.fieldLink RX0 9 "NailRods$Fogger" "keptBack" "I" ∈ gtb := gt2 143 (by decide +kernel) rfl
theorem k_386 : Cond.fieldLink RX0 15 "NailRods$Fogger" "coins" "I" ∈ gtb := gt2 146 (by decide +kernel) rfl
theorem k_388 : Cond.fieldLink RX0 18 "NailRods$Fogger" "bought" "I" ∈ gtb := gt2 148 (by decide +kernel) rfl
theorem k_390 : Cond.fieldLink RX0 21 "NailRods$Fogger" "paid" "I" ∈ gtb := gt2 150 (by decide +kernel) rfl
theorem k_392 : Cond.fieldLink RX0 24 "NailRods$Fogger" "earned" "I" ∈ gtb := gt2 152 (by decide +kernel) rfl
theorem k_394 : Cond.fieldLink RX0 27 "NailRods$Fogger" "loadWorth" "I" ∈ gtb := gt2 154 (by decide +kernel) rfl
theorem k_395 : Cond.lays "NailRods$Fogger" "NailRods$Fogger" "keptBack" "I" ∈ gtb := gt2 155 (by decide +kernel) rfl
theorem k_397 : Cond.lays "NailRods$Fogger" "NailRods$Fogger" "coins" "I" ∈ gtb := gt2 157 (by decide +kernel) rfl
theorem k_399 : Cond.lays "NailRods$Fogger" "NailRods$Fogger" "bought" "I" ∈ gtb := gt2 159 (by decide +kernel) rfl
theorem k_401 : Cond.lays "NailRods$Fogger" "NailRods$Fogger" "paid" "I" ∈ gtb := gt2 161 (by decide +kernel) rfl
theorem k_403 : Cond.lays "NailRods$Fogger" "NailRods$Fogger" "earned" "I" ∈ gtb := gt2 163 (by decide +kernel) rfl
theorem k_405 : Cond.lays "NailRods$Fogger" "NailRods$Fogger" "loadWorth" "I" ∈ gtb := gt2 165 (by decide +kernel) rfl
theorem k_408 : Cond.fieldLink RX2 25 "NailRods$Trade" "hour" "I" ∈ gtb := gt2 168 (by decide +kernel) rfl
theorem k_409 : Cond.fieldLink RX2 29 "NailRods$Trade" "nailerCount" "I" ∈ gtb := gt2 169 (by decide +kernel) rfl
theorem k_411 : Cond.fieldLink RX2 11 "NailRods$Trade" "nailers" "[LNailRods$Nailer;" ∈ gtb := gt2 171 (by decide +kernel) rfl
theorem k_413 : Cond.fieldLink RX2 20 "NailRods$Trade" "foggers" "[LNailRods$Fogger;" ∈ gtb := gt2 173 (by decide +kernel) rfl
theorem k_415 : Cond.lays "NailRods$Trade" "NailRods$Trade" "hour" "I" ∈ gtb := gt2 175 (by decide +kernel) rfl
theorem k_417 : Cond.lays "NailRods$Trade" "NailRods$Trade" "nailerCount" "I" ∈ gtb := gt2 177 (by decide +kernel) rfl
theorem k_419 : Cond.laysFinal "NailRods$Trade" "NailRods$Trade" "nailers" "[LNailRods$Nailer;" ∈ gtb := gt2 179 (by decide +kernel) rfl
theorem k_421 : Cond.laysFinal "NailRods$Trade" "NailRods$Trade" "foggers" "[LNailRods$Fogger;" ∈ gtb := gt2 181 (by decide +kernel) rfl
theorem k_424 : Cond.classLink RX3 19 RX1 ∈ gtb := gt2 184 (by decide +kernel) rfl
theorem k_426 : Cond.fieldLink RX3 10 "NailRods" "trade" "LNailRods$Trade;" ∈ gtb := gt2 186 (by decide +kernel) rfl
theorem k_427 : Cond.fieldLink RX3 16 "NailRods" "foreseen" "LNailRods$Trade;" ∈ gtb := gt2 187 (by decide +kernel) rfl
theorem k_428 : Cond.fieldLink RX3 22 "NailRods" "trial" "LNailRods$Nailer;" ∈ gtb := gt2 188 (by decide +kernel) rfl
theorem k_429 : Cond.laysFinal "NailRods" "NailRods" "trade" "LNailRods$Trade;" ∈ gtb := gt2 189 (by decide +kernel) rfl
theorem k_431 : Cond.laysFinal "NailRods" "NailRods" "foreseen" "LNailRods$Trade;" ∈ gtb := gt2 191 (by decide +kernel) rfl
theorem k_433 : Cond.laysFinal "NailRods" "NailRods" "trial" "LNailRods$Nailer;" ∈ gtb := gt2 193 (by decide +kernel) rfl
theorem k_436 : Cond.methodLink RL 22 yX3_nailer ∈ gtb := gt2 196 (by decide +kernel) rfl
theorem k_437 : Cond.instanceMethod yX3_nailer ∈ gtb := gt2 197 (by decide +kernel) rfl
theorem k_438 : Cond.selects RX3 yX3_nailer yX3_nailer ∈ gtb := gt2 198 (by decide +kernel) rfl
theorem k_439 : Cond.code yX3_nailer cX3_nailer 5 (some FieldType.int) ∈ gtb := gt2 199 (by decide +kernel) rfl
theorem k_443 : Cond.instanceMethod yX1_begin ∈ gtb := gt2 203 (by decide +kernel) rfl
theorem k_444 : Cond.code yX1_begin cX1_begin 4 none ∈ gtb := gt2 204 (by decide +kernel) rfl
theorem k_445 : Cond.fieldLink RL 62 "NailRodsLaw" "OUNCES" "[I" ∈ gtb := gt2 205 (by decide +kernel) rfl
theorem ks_0 : Cond.selects RX3 yX3_needNailer yX3_needNailer ∈ gtb := gt0 0 (by decide +kernel) rfl
theorem ks_2 : Cond.selects RX1 yX1_number yX1_number ∈ gtb := gt0 2 (by decide +kernel) rfl
theorem ks_3 : Cond.selects RX2 yX2_foggerNumber yX2_foggerNumber ∈ gtb := gt0 3 (by decide +kernel) rfl
theorem ks_4 : Cond.selects RX2 yX2_workersFor yX2_workersFor ∈ gtb := gt0 4 (by decide +kernel) rfl
theorem ks_5 : Cond.selects RX2 yX2_total yX2_total ∈ gtb := gt0 5 (by decide +kernel) rfl
theorem ks_6 : Cond.selects RX2 yX2_warehouseBags yX2_warehouseBags ∈ gtb := gt0 6 (by decide +kernel) rfl
theorem ks_7 : Cond.selects RX2 yX2_sumOfShares yX2_sumOfShares ∈ gtb := gt0 7 (by decide +kernel) rfl
theorem ks_8 : Cond.selects RX1 yX1_shareOfTotal yX1_shareOfTotal ∈ gtb := gt0 8 (by decide +kernel) rfl
theorem ks_9 : Cond.selects RX2 yX2_goBy yX2_goBy ∈ gtb := gt0 9 (by decide +kernel) rfl
theorem ks_10 : Cond.selects RX2 yX2_goByOne yX2_goByOne ∈ gtb := gt0 10 (by decide +kernel) rfl
theorem ks_11 : Cond.selects RX1 yX1_workHour yX1_workHour ∈ gtb := gt0 11 (by decide +kernel) rfl
theorem ks_12 : Cond.selects RX1 yX1_tendFire yX1_tendFire ∈ gtb := gt0 12 (by decide +kernel) rfl
theorem ks_13 : Cond.selects RX1 yX1_head yX1_head ∈ gtb := gt0 13 (by decide +kernel) rfl
theorem ks_14 : Cond.selects RX1 yX1_headFromHand yX1_headFromHand ∈ gtb := gt0 14 (by decide +kernel) rfl
theorem ks_15 : Cond.selects RX1 yX1_store yX1_store ∈ gtb := gt0 15 (by decide +kernel) rfl
theorem ks_16 : Cond.selects RX2 yX2_reckonWeek yX2_reckonWeek ∈ gtb := gt0 16 (by decide +kernel) rfl
theorem ks_17 : Cond.selects RX0 yX0_buyBags yX0_buyBags ∈ gtb := gt0 17 (by decide +kernel) rfl
theorem ks_18 : Cond.selects RX0 yX0_collectDebt yX0_collectDebt ∈ gtb := gt0 18 (by decide +kernel) rfl
theorem ks_19 : Cond.selects RX0 yX0_deliver yX0_deliver ∈ gtb := gt0 19 (by decide +kernel) rfl
theorem ks_20 : Cond.selects RX1 yX1_copyFrom yX1_copyFrom ∈ gtb := gt0 20 (by decide +kernel) rfl
theorem ks_21 : Cond.selects RX1 yX1_workHours yX1_workHours ∈ gtb := gt0 21 (by decide +kernel) rfl
theorem ks_22 : Cond.selects RX2 yX2_copyFrom yX2_copyFrom ∈ gtb := gt0 22 (by decide +kernel) rfl
theorem ks_23 : Cond.selects RX0 yX0_copyFrom yX0_copyFrom ∈ gtb := gt0 23 (by decide +kernel) rfl
theorem ks_24 : Cond.selects RX1 yX1_addToDigest yX1_addToDigest ∈ gtb := gt0 24 (by decide +kernel) rfl
theorem ks_25 : Cond.selects RX1 yX1_begin yX1_begin ∈ gtb := gt0 25 (by decide +kernel) rfl
theorem inX0g : ∀ w ∈ wsX00, w ∈ gtb := by
  intro w h
  obtain ⟨k, hk, rfl⟩ := List.mem_map.mp h
  have hk := List.mem_range.mp hk
  rcases (show k = 0 ∨ k = 1 ∨ k = 2 ∨ k = 3 ∨ k = 4 ∨ k = 5 by omega) with rfl | rfl | rfl | rfl | rfl | rfl
  · exact k_395
  · exact k_397
  · exact k_399
  · exact k_401
  · exact k_403
  · exact k_405
theorem inX1g : ∀ w ∈ wsX10, w ∈ gtb := by
  intro w h
  obtain ⟨k, hk, rfl⟩ := List.mem_map.mp h
  have hk := List.mem_range.mp hk
  rcases (show k = 0 ∨ k = 1 ∨ k = 2 ∨ k = 3 ∨ k = 4 ∨ k = 5 ∨ k = 6 ∨ k = 7 ∨ k = 8 ∨ k = 9 ∨ k = 10 ∨ k = 11 ∨ k = 12 ∨ k = 13 by omega) with rfl | rfl | rfl | rfl | rfl | rfl | rfl | rfl | rfl | rfl | rfl | rfl | rfl | rfl
  · exact k_347
  · exact k_349
  · exact k_351
  · exact k_353
  · exact k_355
  · exact k_357
  · exact k_359
  · exact k_361
  · exact k_363
  · exact k_365
  · exact k_367
  · exact k_369
  · exact k_371
  · exact k_373
theorem inX2g : ∀ w ∈ wsX20, w ∈ gtb := by
  intro w h
  obtain ⟨k, hk, rfl⟩ := List.mem_map.mp h
  have hk := List.mem_range.mp hk
  rcases (show k = 0 ∨ k = 1 ∨ k = 2 ∨ k = 3 by omega) with rfl | rfl | rfl | rfl
  · exact k_415
  · exact k_417
  · exact k_419
  · exact k_421
theorem inX3g : ∀ w ∈ wsX30, w ∈ gtb := by
  intro w h
  obtain ⟨k, hk, rfl⟩ := List.mem_map.mp h
  have hk := List.mem_range.mp hk
  rcases (show k = 0 ∨ k = 1 ∨ k = 2 by omega) with rfl | rfl | rfl
  · exact k_429
  · exact k_431
  · exact k_433
