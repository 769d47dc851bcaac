/-! WORDS of the tables by their places -/
theorem gw_1 {w : Cond} (k : Nat) (h : tables_1_1[k]? = some w) (hg : goodWord w = true) : w ∈ gw := List.mem_filter.mpr ⟨List.mem_append_right _ (List.mem_append_left _ (List.mem_of_getElem? h)), hg⟩
theorem gw_2 {w : Cond} (k : Nat) (h : tables_1_2[k]? = some w) (hg : goodWord w = true) : w ∈ gw := List.mem_filter.mpr ⟨List.mem_append_right _ (List.mem_append_right _ (List.mem_append_left _ (List.mem_of_getElem? h))), hg⟩
theorem gw_3 {w : Cond} (k : Nat) (h : tables_1_3[k]? = some w) (hg : goodWord w = true) : w ∈ gw := List.mem_filter.mpr ⟨List.mem_append_right _ (List.mem_append_right _ (List.mem_append_right _ (List.mem_append_left _ (List.mem_of_getElem? h)))), hg⟩
theorem gw_4 {w : Cond} (k : Nat) (h : tables_1_4[k]? = some w) (hg : goodWord w = true) : w ∈ gw := List.mem_filter.mpr ⟨List.mem_append_right _ (List.mem_append_right _ (List.mem_append_right _ (List.mem_append_right _ (List.mem_of_getElem? h)))), hg⟩
theorem wd_0 : (Cond.initialized "CountRoundsLaw") ∈ gw := gw_1 0 (by decide +kernel) rfl
theorem wd_1 : (Cond.initialized "CountRounds") ∈ gw := gw_1 1 (by decide +kernel) rfl
theorem wd_2 : (Cond.initialized "java/util/Arrays") ∈ gw := gw_1 2 (by decide +kernel) rfl
theorem wd_3 : (Cond.initialized "CountRoundsModel") ∈ gw := gw_1 3 (by decide +kernel) rfl
theorem wd_4 : (Cond.initialized "java/lang/Throwable") ∈ gw := gw_1 4 (by decide +kernel) rfl
theorem wd_5 : (Cond.initialized "java/lang/Exception") ∈ gw := gw_1 5 (by decide +kernel) rfl
theorem wd_6 : (Cond.initialized "java/lang/RuntimeException") ∈ gw := gw_1 6 (by decide +kernel) rfl
theorem wd_7 : (Cond.initialized "java/lang/IllegalArgumentException") ∈ gw := gw_1 7 (by decide +kernel) rfl
theorem wd_8 : (Cond.initialized "java/lang/UnsupportedOperationException") ∈ gw := gw_1 8 (by decide +kernel) rfl
theorem wd_9 : (Cond.initialized "CountRounds$Place") ∈ gw := gw_1 9 (by decide +kernel) rfl
theorem wd_10 : (Cond.initialized "java/util/NoSuchElementException") ∈ gw := gw_1 10 (by decide +kernel) rfl
theorem wd_11 : (Cond.initialized "java/lang/IllegalStateException") ∈ gw := gw_1 11 (by decide +kernel) rfl
theorem wd_12 : (Cond.initialized "CountRounds$Transfer") ∈ gw := gw_1 12 (by decide +kernel) rfl
theorem wd_13 : (Cond.initialized "java/lang/Math") ∈ gw := gw_1 13 (by decide +kernel) rfl
theorem wd_14 : (Cond.initialized "java/lang/System") ∈ gw := gw_1 14 (by decide +kernel) rfl
theorem wd_15 : (Cond.initialized "CountRounds$Sheet") ∈ gw := gw_1 15 (by decide +kernel) rfl
theorem wd_16 : (Cond.initialized "java/lang/ArithmeticException") ∈ gw := gw_1 16 (by decide +kernel) rfl
theorem wd_17 : (Cond.classLink "CountRoundsLaw" 8 "CountRounds") ∈ gw := gw_1 17 (by decide +kernel) rfl
theorem wd_18 : (Cond.instantiable "CountRounds" 14) ∈ gw := gw_1 18 (by decide +kernel) rfl
theorem wd_19 : (Cond.methodLink "CountRoundsLaw" 92 ({ cls := "CountRounds", name := "<init>", desc := "()V" } : MethodName)) ∈ gw := gw_1 19 (by decide +kernel) rfl
theorem wd_20 : (Cond.instanceMethod ({ cls := "CountRounds", name := "<init>", desc := "()V" } : MethodName)) ∈ gw := gw_1 20 (by decide +kernel) rfl
theorem wd_21 : (Cond.code ({ cls := "CountRounds", name := "<init>", desc := "()V" } : MethodName) prog_1_method_1_code 1 (Option.none : Option FieldType)) ∈ gw := gw_1 21 rfl rfl
theorem wd_22 : (Cond.methodLink "CountRounds" 1 ({ cls := "java/lang/Object", name := "<init>", desc := "()V" } : MethodName)) ∈ gw := gw_1 22 (by decide +kernel) rfl
theorem wd_23 : (Cond.instanceMethod ({ cls := "java/lang/Object", name := "<init>", desc := "()V" } : MethodName)) ∈ gw := gw_1 23 (by decide +kernel) rfl
theorem wd_24 : (Cond.code ({ cls := "java/lang/Object", name := "<init>", desc := "()V" } : MethodName) object_method_1_code 1 (Option.none : Option FieldType)) ∈ gw := gw_1 24 rfl rfl
theorem wd_25 : (Cond.classLink "CountRounds" 9 "CountRounds$Place") ∈ gw := gw_1 25 (by decide +kernel) rfl
theorem wd_27 : (Cond.classLink "CountRounds" 15 "CountRounds$Transfer") ∈ gw := gw_1 27 (by decide +kernel) rfl
theorem wd_29 : (Cond.classLink "CountRounds" 21 "CountRounds$Sheet") ∈ gw := gw_1 29 (by decide +kernel) rfl
theorem wd_31 : (Cond.methodLink "CountRounds" 44 ({ cls := "java/util/Arrays", name := "fill", desc := "([II)V" } : MethodName)) ∈ gw := gw_1 31 (by decide +kernel) rfl
theorem wd_32 : (Cond.static ({ cls := "java/util/Arrays", name := "fill", desc := "([II)V" } : MethodName)) ∈ gw := gw_1 32 (by decide +kernel) rfl
theorem wd_33 : (Cond.code ({ cls := "java/util/Arrays", name := "fill", desc := "([II)V" } : MethodName) prog_17_method_103_code 4 (Option.none : Option FieldType)) ∈ gw := gw_1 33 rfl rfl
theorem wd_34 : (Cond.fieldLink "CountRounds" 11 "CountRounds" "places" "[LCountRounds$Place;") ∈ gw := gw_1 34 (by decide +kernel) rfl
theorem wd_35 : (Cond.fieldLink "CountRounds" 17 "CountRounds" "transfers" "[LCountRounds$Transfer;") ∈ gw := gw_1 35 (by decide +kernel) rfl
theorem wd_36 : (Cond.fieldLink "CountRounds" 23 "CountRounds" "sheets" "[LCountRounds$Sheet;") ∈ gw := gw_1 36 (by decide +kernel) rfl
theorem wd_37 : (Cond.fieldLink "CountRounds" 27 "CountRounds" "cycles" "[I") ∈ gw := gw_1 37 (by decide +kernel) rfl
theorem wd_38 : (Cond.fieldLink "CountRounds" 31 "CountRounds" "tolerances" "[I") ∈ gw := gw_1 38 (by decide +kernel) rfl
theorem wd_39 : (Cond.fieldLink "CountRounds" 34 "CountRounds" "rights" "[I") ∈ gw := gw_1 39 (by decide +kernel) rfl
theorem wd_40 : (Cond.fieldLink "CountRounds" 37 "CountRounds" "candidates" "[I") ∈ gw := gw_1 40 (by decide +kernel) rfl
theorem wd_41 : (Cond.fieldLink "CountRounds" 61 "CountRounds" "placesMade" "I") ∈ gw := gw_1 41 (by decide +kernel) rfl
theorem wd_42 : (Cond.fieldLink "CountRounds" 119 "CountRounds" "transfersMade" "I") ∈ gw := gw_1 42 (by decide +kernel) rfl
theorem wd_43 : (Cond.fieldLink "CountRounds" 155 "CountRounds" "sheetsMade" "I") ∈ gw := gw_1 43 (by decide +kernel) rfl
theorem wd_44 : (Cond.fieldLink "CountRounds" 106 "CountRounds" "today" "I") ∈ gw := gw_1 44 (by decide +kernel) rfl
theorem wd_45 : (Cond.fieldLink "CountRounds" 40 "CountRounds" "waits" "Z") ∈ gw := gw_1 45 (by decide +kernel) rfl
theorem wd_46 : (Cond.fieldLink "CountRounds" 262 "CountRounds" "timesCounted" "I") ∈ gw := gw_1 46 (by decide +kernel) rfl
theorem wd_47 : (Cond.fieldLink "CountRounds" 265 "CountRounds" "timesRight" "I") ∈ gw := gw_1 47 (by decide +kernel) rfl
theorem wd_48 : (Cond.laysFinal "CountRounds" "CountRounds" "places" "[LCountRounds$Place;") ∈ gw := gw_1 48 (by decide +kernel) rfl
theorem wd_50 : (Cond.laysFinal "CountRounds" "CountRounds" "transfers" "[LCountRounds$Transfer;") ∈ gw := gw_1 50 (by decide +kernel) rfl
theorem wd_52 : (Cond.laysFinal "CountRounds" "CountRounds" "sheets" "[LCountRounds$Sheet;") ∈ gw := gw_1 52 (by decide +kernel) rfl
theorem wd_54 : (Cond.laysFinal "CountRounds" "CountRounds" "cycles" "[I") ∈ gw := gw_1 54 (by decide +kernel) rfl
theorem wd_56 : (Cond.laysFinal "CountRounds" "CountRounds" "tolerances" "[I") ∈ gw := gw_1 56 (by decide +kernel) rfl
theorem wd_58 : (Cond.laysFinal "CountRounds" "CountRounds" "rights" "[I") ∈ gw := gw_1 58 (by decide +kernel) rfl
theorem wd_60 : (Cond.laysFinal "CountRounds" "CountRounds" "candidates" "[I") ∈ gw := gw_1 60 (by decide +kernel) rfl
theorem wd_62 : (Cond.lays "CountRounds" "CountRounds" "placesMade" "I") ∈ gw := gw_1 62 (by decide +kernel) rfl
theorem wd_64 : (Cond.lays "CountRounds" "CountRounds" "transfersMade" "I") ∈ gw := gw_1 64 (by decide +kernel) rfl
theorem wd_66 : (Cond.lays "CountRounds" "CountRounds" "sheetsMade" "I") ∈ gw := gw_1 66 (by decide +kernel) rfl
theorem wd_68 : (Cond.lays "CountRounds" "CountRounds" "today" "I") ∈ gw := gw_1 68 (by decide +kernel) rfl
theorem wd_70 : (Cond.lays "CountRounds" "CountRounds" "waits" "Z") ∈ gw := gw_1 70 (by decide +kernel) rfl
theorem wd_72 : (Cond.lays "CountRounds" "CountRounds" "timesCounted" "I") ∈ gw := gw_1 72 (by decide +kernel) rfl
theorem wd_74 : (Cond.lays "CountRounds" "CountRounds" "timesRight" "I") ∈ gw := gw_1 74 (by decide +kernel) rfl
theorem wd_77 : (Cond.arrayClass FieldType.int) ∈ gw := gw_1 77 (by decide +kernel) rfl
theorem wd_78 : (Cond.methodLink "CountRoundsLaw" 176 ({ cls := "CountRounds", name := "count", desc := "(I)I" } : MethodName)) ∈ gw := gw_1 78 (by decide +kernel) rfl
theorem wd_79 : (Cond.instanceMethod ({ cls := "CountRounds", name := "count", desc := "(I)I" } : MethodName)) ∈ gw := gw_1 79 (by decide +kernel) rfl
theorem wd_80 : (Cond.selects "CountRounds" ({ cls := "CountRounds", name := "count", desc := "(I)I" } : MethodName) ({ cls := "CountRounds", name := "count", desc := "(I)I" } : MethodName)) ∈ gw := gw_1 80 (by decide +kernel) rfl
theorem wd_81 : (Cond.code ({ cls := "CountRounds", name := "count", desc := "(I)I" } : MethodName) prog_1_method_23_code 2 (Option.some FieldType.int)) ∈ gw := gw_1 81 rfl rfl
theorem wd_82 : (Cond.methodLink "CountRounds" 285 ({ cls := "CountRounds", name := "openMoves", desc := "()I" } : MethodName)) ∈ gw := gw_1 82 (by decide +kernel) rfl
theorem wd_84 : (Cond.instanceMethod ({ cls := "CountRounds", name := "openMoves", desc := "()I" } : MethodName)) ∈ gw := gw_1 84 (by decide +kernel) rfl
theorem wd_85 : (Cond.code ({ cls := "CountRounds", name := "openMoves", desc := "()I" } : MethodName) prog_1_method_34_code 3 (Option.some FieldType.int)) ∈ gw := gw_1 85 rfl rfl
theorem wd_86 : (Cond.methodLink "CountRounds" 127 ({ cls := "CountRounds", name := "transferNumbered", desc := "(I)LCountRounds$Transfer;" } : MethodName)) ∈ gw := gw_1 86 (by decide +kernel) rfl
theorem wd_88 : (Cond.instanceMethod ({ cls := "CountRounds", name := "transferNumbered", desc := "(I)LCountRounds$Transfer;" } : MethodName)) ∈ gw := gw_1 88 (by decide +kernel) rfl
theorem wd_89 : (Cond.code ({ cls := "CountRounds", name := "transferNumbered", desc := "(I)LCountRounds$Transfer;" } : MethodName) prog_1_method_31_code 3 (Option.some (FieldType.object "CountRounds$Transfer"))) ∈ gw := gw_1 89 rfl rfl
theorem wd_90 : (Cond.methodLink "CountRounds" 88 ({ cls := "CountRounds", name := "isWithin", desc := "(III)Z" } : MethodName)) ∈ gw := gw_1 90 (by decide +kernel) rfl
theorem wd_91 : (Cond.static ({ cls := "CountRounds", name := "isWithin", desc := "(III)Z" } : MethodName)) ∈ gw := gw_1 91 (by decide +kernel) rfl
theorem wd_92 : (Cond.code ({ cls := "CountRounds", name := "isWithin", desc := "(III)Z" } : MethodName) prog_1_method_24_code 3 (Option.some FieldType.boolean)) ∈ gw := gw_1 92 rfl rfl
theorem wd_93 : (Cond.classLink "CountRounds" 202 "java/util/NoSuchElementException") ∈ gw := gw_1 93 (by decide +kernel) rfl
theorem wd_94 : (Cond.instantiable "java/util/NoSuchElementException" 6) ∈ gw := gw_1 94 (by decide +kernel) rfl
theorem wd_102 : (Cond.selects "java/util/NoSuchElementException" ({ cls := "java/lang/Throwable", name := "fillInStackTrace", desc := "(I)Ljava/lang/Throwable;" } : MethodName) ({ cls := "java/lang/Throwable", name := "fillInStackTrace", desc := "(I)Ljava/lang/Throwable;" } : MethodName)) ∈ gw := gw_1 102 (by decide +kernel) rfl
theorem wd_103 : (Cond.selects "java/util/NoSuchElementException" ({ cls := "java/lang/Throwable", name := "fillInStackTrace", desc := "()Ljava/lang/Throwable;" } : MethodName) ({ cls := "java/lang/Throwable", name := "fillInStackTrace", desc := "()Ljava/lang/Throwable;" } : MethodName)) ∈ gw := gw_1 103 (by decide +kernel) rfl
theorem wd_104 : (Cond.lays "java/util/NoSuchElementException" "java/lang/Throwable" "cause" "Ljava/lang/Throwable;") ∈ gw := gw_1 104 (by decide +kernel) rfl
theorem wd_105 : (Cond.lays "java/lang/Throwable" "java/lang/Throwable" "cause" "Ljava/lang/Throwable;") ∈ gw := gw_1 105 (by decide +kernel) rfl
theorem wd_106 : (Cond.lays "java/util/NoSuchElementException" "java/lang/Throwable" "stackTrace" "[Ljava/lang/StackTraceElement;") ∈ gw := gw_1 106 (by decide +kernel) rfl
theorem wd_107 : (Cond.lays "java/lang/Throwable" "java/lang/Throwable" "stackTrace" "[Ljava/lang/StackTraceElement;") ∈ gw := gw_1 107 (by decide +kernel) rfl
theorem wd_108 : (Cond.lays "java/util/NoSuchElementException" "java/lang/Throwable" "suppressedExceptions" "Ljava/util/List;") ∈ gw := gw_1 108 (by decide +kernel) rfl
theorem wd_109 : (Cond.lays "java/lang/Throwable" "java/lang/Throwable" "suppressedExceptions" "Ljava/util/List;") ∈ gw := gw_1 109 (by decide +kernel) rfl
theorem wd_110 : (Cond.lays "java/util/NoSuchElementException" "java/lang/Throwable" "detailMessage" "Ljava/lang/String;") ∈ gw := gw_1 110 (by decide +kernel) rfl
theorem wd_111 : (Cond.lays "java/lang/Throwable" "java/lang/Throwable" "detailMessage" "Ljava/lang/String;") ∈ gw := gw_1 111 (by decide +kernel) rfl
theorem wd_112 : (Cond.lays "java/util/NoSuchElementException" "java/lang/Throwable" "backtrace" "Ljava/lang/Object;") ∈ gw := gw_1 112 (by decide +kernel) rfl
theorem wd_113 : (Cond.lays "java/lang/Throwable" "java/lang/Throwable" "backtrace" "Ljava/lang/Object;") ∈ gw := gw_1 113 (by decide +kernel) rfl
theorem wd_114 : (Cond.fieldLink "java/lang/Throwable" 198 "java/lang/Throwable" "backtrace" "Ljava/lang/Object;") ∈ gw := gw_1 114 (by decide +kernel) rfl
theorem wd_116 : (Cond.instanceMethod ({ cls := "java/lang/Throwable", name := "<init>", desc := "()V" } : MethodName)) ∈ gw := gw_1 116 (by decide +kernel) rfl
theorem wd_117 : (Cond.code ({ cls := "java/lang/Throwable", name := "<init>", desc := "()V" } : MethodName) prog_15_method_1_code 1 (Option.none : Option FieldType)) ∈ gw := gw_1 117 rfl rfl
theorem wd_118 : (Cond.methodLink "java/lang/Throwable" 1 ({ cls := "java/lang/Object", name := "<init>", desc := "()V" } : MethodName)) ∈ gw := gw_1 118 (by decide +kernel) rfl
theorem wd_119 : (Cond.fieldLink "java/lang/Throwable" 13 "java/lang/Throwable" "UNASSIGNED_STACK" "[Ljava/lang/StackTraceElement;") ∈ gw := gw_1 119 (by decide +kernel) rfl
theorem wd_121 : (Cond.fieldLink "java/lang/Throwable" 20 "java/lang/Throwable" "SUPPRESSED_SENTINEL" "Ljava/util/List;") ∈ gw := gw_1 121 (by decide +kernel) rfl
theorem wd_123 : (Cond.methodLink "java/lang/Throwable" 27 ({ cls := "java/lang/Throwable", name := "fillInStackTrace", desc := "()Ljava/lang/Throwable;" } : MethodName)) ∈ gw := gw_1 123 (by decide +kernel) rfl
theorem wd_124 : (Cond.instanceMethod ({ cls := "java/lang/Throwable", name := "fillInStackTrace", desc := "()Ljava/lang/Throwable;" } : MethodName)) ∈ gw := gw_1 124 (by decide +kernel) rfl
theorem wd_125 : (Cond.sameMethod "java/lang/Throwable" "java/lang/Throwable" "fillInStackTrace" "()Ljava/lang/Throwable;") ∈ gw := gw_1 125 (by decide +kernel) rfl
theorem wd_126 : (Cond.selects "java/lang/ArithmeticException" ({ cls := "java/lang/Throwable", name := "fillInStackTrace", desc := "()Ljava/lang/Throwable;" } : MethodName) ({ cls := "java/lang/Throwable", name := "fillInStackTrace", desc := "()Ljava/lang/Throwable;" } : MethodName)) ∈ gw := gw_1 126 (by decide +kernel) rfl
theorem wd_127 : (Cond.selects "java/lang/IllegalArgumentException" ({ cls := "java/lang/Throwable", name := "fillInStackTrace", desc := "()Ljava/lang/Throwable;" } : MethodName) ({ cls := "java/lang/Throwable", name := "fillInStackTrace", desc := "()Ljava/lang/Throwable;" } : MethodName)) ∈ gw := gw_1 127 (by decide +kernel) rfl
theorem wd_128 : (Cond.selects "java/lang/IllegalStateException" ({ cls := "java/lang/Throwable", name := "fillInStackTrace", desc := "()Ljava/lang/Throwable;" } : MethodName) ({ cls := "java/lang/Throwable", name := "fillInStackTrace", desc := "()Ljava/lang/Throwable;" } : MethodName)) ∈ gw := gw_1 128 (by decide +kernel) rfl
theorem wd_129 : (Cond.selects "java/lang/UnsupportedOperationException" ({ cls := "java/lang/Throwable", name := "fillInStackTrace", desc := "()Ljava/lang/Throwable;" } : MethodName) ({ cls := "java/lang/Throwable", name := "fillInStackTrace", desc := "()Ljava/lang/Throwable;" } : MethodName)) ∈ gw := gw_1 129 (by decide +kernel) rfl
theorem wd_130 : (Cond.codeSync ({ cls := "java/lang/Throwable", name := "fillInStackTrace", desc := "()Ljava/lang/Throwable;" } : MethodName) prog_15_method_18_code 1 (Option.some (FieldType.object "java/lang/Throwable"))) ∈ gw := gw_1 130 rfl rfl
theorem wd_131 : (Cond.methodLink "java/lang/Throwable" 202 ({ cls := "java/lang/Throwable", name := "fillInStackTrace", desc := "(I)Ljava/lang/Throwable;" } : MethodName)) ∈ gw := gw_1 131 (by decide +kernel) rfl
theorem wd_133 : (Cond.instanceMethod ({ cls := "java/lang/Throwable", name := "fillInStackTrace", desc := "(I)Ljava/lang/Throwable;" } : MethodName)) ∈ gw := gw_1 133 (by decide +kernel) rfl
theorem wd_134 : (Cond.instantiable "java/lang/Throwable" 6) ∈ gw := gw_1 134 (by decide +kernel) rfl
theorem wd_135 : (Cond.native ({ cls := "java/lang/Throwable", name := "fillInStackTrace", desc := "(I)Ljava/lang/Throwable;" } : MethodName)) ∈ gw := gw_1 135 (by decide +kernel) rfl
theorem wd_137 : (Cond.methodLink "CountRounds" 206 ({ cls := "java/util/NoSuchElementException", name := "<init>", desc := "(Ljava/lang/String;)V" } : MethodName)) ∈ gw := gw_1 137 (by decide +kernel) rfl
theorem wd_138 : (Cond.instanceMethod ({ cls := "java/util/NoSuchElementException", name := "<init>", desc := "(Ljava/lang/String;)V" } : MethodName)) ∈ gw := gw_1 138 (by decide +kernel) rfl
theorem wd_139 : (Cond.code ({ cls := "java/util/NoSuchElementException", name := "<init>", desc := "(Ljava/lang/String;)V" } : MethodName) prog_18_method_4_code 2 (Option.none : Option FieldType)) ∈ gw := gw_1 139 rfl rfl
theorem wd_140 : (Cond.methodLink "java/util/NoSuchElementException" 13 ({ cls := "java/lang/RuntimeException", name := "<init>", desc := "(Ljava/lang/String;)V" } : MethodName)) ∈ gw := gw_1 140 (by decide +kernel) rfl
theorem wd_141 : (Cond.instanceMethod ({ cls := "java/lang/RuntimeException", name := "<init>", desc := "(Ljava/lang/String;)V" } : MethodName)) ∈ gw := gw_1 141 (by decide +kernel) rfl
theorem wd_142 : (Cond.code ({ cls := "java/lang/RuntimeException", name := "<init>", desc := "(Ljava/lang/String;)V" } : MethodName) prog_12_method_2_code 2 (Option.none : Option FieldType)) ∈ gw := gw_1 142 rfl rfl
theorem wd_143 : (Cond.methodLink "java/lang/RuntimeException" 7 ({ cls := "java/lang/Exception", name := "<init>", desc := "(Ljava/lang/String;)V" } : MethodName)) ∈ gw := gw_1 143 (by decide +kernel) rfl
theorem wd_144 : (Cond.instanceMethod ({ cls := "java/lang/Exception", name := "<init>", desc := "(Ljava/lang/String;)V" } : MethodName)) ∈ gw := gw_1 144 (by decide +kernel) rfl
theorem wd_145 : (Cond.code ({ cls := "java/lang/Exception", name := "<init>", desc := "(Ljava/lang/String;)V" } : MethodName) prog_8_method_2_code 2 (Option.none : Option FieldType)) ∈ gw := gw_1 145 rfl rfl
theorem wd_146 : (Cond.methodLink "java/lang/Exception" 7 ({ cls := "java/lang/Throwable", name := "<init>", desc := "(Ljava/lang/String;)V" } : MethodName)) ∈ gw := gw_1 146 (by decide +kernel) rfl
theorem wd_147 : (Cond.instanceMethod ({ cls := "java/lang/Throwable", name := "<init>", desc := "(Ljava/lang/String;)V" } : MethodName)) ∈ gw := gw_1 147 (by decide +kernel) rfl
theorem wd_148 : (Cond.code ({ cls := "java/lang/Throwable", name := "<init>", desc := "(Ljava/lang/String;)V" } : MethodName) prog_15_method_2_code 2 (Option.none : Option FieldType)) ∈ gw := gw_1 148 rfl rfl
theorem wd_149 : (Cond.fieldLink "java/lang/Throwable" 198 "java/lang/Throwable" "backtrace" "Ljava/lang/Object;") ∈ gw := gw_1 149 (by decide +kernel) rfl
theorem wd_150 : (Cond.fieldLink "java/lang/Throwable" 31 "java/lang/Throwable" "detailMessage" "Ljava/lang/String;") ∈ gw := gw_1 150 (by decide +kernel) rfl
theorem wd_151 : (Cond.fieldLink "java/lang/Throwable" 7 "java/lang/Throwable" "cause" "Ljava/lang/Throwable;") ∈ gw := gw_1 151 (by decide +kernel) rfl
theorem wd_152 : (Cond.fieldLink "java/lang/Throwable" 17 "java/lang/Throwable" "stackTrace" "[Ljava/lang/StackTraceElement;") ∈ gw := gw_1 152 (by decide +kernel) rfl
theorem wd_153 : (Cond.fieldLink "java/lang/Throwable" 24 "java/lang/Throwable" "suppressedExceptions" "Ljava/util/List;") ∈ gw := gw_1 153 (by decide +kernel) rfl
theorem wd_158 : (Cond.lays "java/util/NoSuchElementException" "java/lang/Throwable" "depth" "I") ∈ gw := gw_1 158 (by decide +kernel) rfl
theorem wd_162 : (Cond.arrayClass FieldType.byte) ∈ gw := gw_1 162 (by decide +kernel) rfl
theorem wd_163 : (Cond.methodLink "CountRoundsLaw" 96 ({ cls := "CountRoundsLaw", name := "place", desc := "(LCountRounds;I[J)I" } : MethodName)) ∈ gw := gw_1 163 (by decide +kernel) rfl
theorem wd_164 : (Cond.static ({ cls := "CountRoundsLaw", name := "place", desc := "(LCountRounds;I[J)I" } : MethodName)) ∈ gw := gw_1 164 (by decide +kernel) rfl
theorem wd_165 : (Cond.codeWith ({ cls := "CountRoundsLaw", name := "place", desc := "(LCountRounds;I[J)I" } : MethodName) method_3_code 4 (Option.some FieldType.int) [(0, 9, 12, 13), (0, 9, 15, 15)]) ∈ gw := gw_1 165 rfl rfl
theorem wd_166 : (Cond.classLink "CountRoundsLaw" 13 "java/lang/IllegalArgumentException") ∈ gw := gw_1 166 (by decide +kernel) rfl
theorem wd_167 : (Cond.classLink "CountRoundsLaw" 15 "java/lang/UnsupportedOperationException") ∈ gw := gw_1 167 (by decide +kernel) rfl
theorem wd_168 : (Cond.methodLink "CountRoundsLaw" 7 ({ cls := "CountRounds", name := "place", desc := "(I)I" } : MethodName)) ∈ gw := gw_1 168 (by decide +kernel) rfl
theorem wd_169 : (Cond.instanceMethod ({ cls := "CountRounds", name := "place", desc := "(I)I" } : MethodName)) ∈ gw := gw_1 169 (by decide +kernel) rfl
theorem wd_170 : (Cond.selects "CountRounds" ({ cls := "CountRounds", name := "place", desc := "(I)I" } : MethodName) ({ cls := "CountRounds", name := "place", desc := "(I)I" } : MethodName)) ∈ gw := gw_1 170 (by decide +kernel) rfl
theorem wd_171 : (Cond.code ({ cls := "CountRounds", name := "place", desc := "(I)I" } : MethodName) prog_1_method_2_code 3 (Option.some FieldType.int)) ∈ gw := gw_1 171 rfl rfl
theorem wd_172 : (Cond.methodLink "CountRounds" 50 ({ cls := "CountRounds", name := "isKind", desc := "(I)Z" } : MethodName)) ∈ gw := gw_1 172 (by decide +kernel) rfl
theorem wd_173 : (Cond.static ({ cls := "CountRounds", name := "isKind", desc := "(I)Z" } : MethodName)) ∈ gw := gw_1 173 (by decide +kernel) rfl
theorem wd_174 : (Cond.code ({ cls := "CountRounds", name := "isKind", desc := "(I)Z" } : MethodName) prog_1_method_25_code 1 (Option.some FieldType.boolean)) ∈ gw := gw_1 174 rfl rfl
theorem wd_175 : (Cond.classLink "CountRounds" 54 "java/lang/IllegalArgumentException") ∈ gw := gw_1 175 (by decide +kernel) rfl
theorem wd_176 : (Cond.instantiable "java/lang/IllegalArgumentException" 6) ∈ gw := gw_1 176 (by decide +kernel) rfl
theorem wd_178 : (Cond.selects "java/lang/IllegalArgumentException" ({ cls := "java/lang/Throwable", name := "fillInStackTrace", desc := "(I)Ljava/lang/Throwable;" } : MethodName) ({ cls := "java/lang/Throwable", name := "fillInStackTrace", desc := "(I)Ljava/lang/Throwable;" } : MethodName)) ∈ gw := gw_1 178 (by decide +kernel) rfl
theorem wd_179 : (Cond.lays "java/lang/IllegalArgumentException" "java/lang/Throwable" "cause" "Ljava/lang/Throwable;") ∈ gw := gw_1 179 (by decide +kernel) rfl
theorem wd_180 : (Cond.lays "java/lang/IllegalArgumentException" "java/lang/Throwable" "stackTrace" "[Ljava/lang/StackTraceElement;") ∈ gw := gw_1 180 (by decide +kernel) rfl
theorem wd_181 : (Cond.lays "java/lang/IllegalArgumentException" "java/lang/Throwable" "suppressedExceptions" "Ljava/util/List;") ∈ gw := gw_1 181 (by decide +kernel) rfl
theorem wd_182 : (Cond.lays "java/lang/IllegalArgumentException" "java/lang/Throwable" "detailMessage" "Ljava/lang/String;") ∈ gw := gw_1 182 (by decide +kernel) rfl
theorem wd_183 : (Cond.lays "java/lang/IllegalArgumentException" "java/lang/Throwable" "backtrace" "Ljava/lang/Object;") ∈ gw := gw_1 183 (by decide +kernel) rfl
theorem wd_185 : (Cond.methodLink "CountRounds" 58 ({ cls := "java/lang/IllegalArgumentException", name := "<init>", desc := "(Ljava/lang/String;)V" } : MethodName)) ∈ gw := gw_1 185 (by decide +kernel) rfl
theorem wd_186 : (Cond.instanceMethod ({ cls := "java/lang/IllegalArgumentException", name := "<init>", desc := "(Ljava/lang/String;)V" } : MethodName)) ∈ gw := gw_1 186 (by decide +kernel) rfl
theorem wd_187 : (Cond.code ({ cls := "java/lang/IllegalArgumentException", name := "<init>", desc := "(Ljava/lang/String;)V" } : MethodName) prog_9_method_2_code 2 (Option.none : Option FieldType)) ∈ gw := gw_1 187 rfl rfl
theorem wd_188 : (Cond.methodLink "java/lang/IllegalArgumentException" 7 ({ cls := "java/lang/RuntimeException", name := "<init>", desc := "(Ljava/lang/String;)V" } : MethodName)) ∈ gw := gw_1 188 (by decide +kernel) rfl
theorem wd_189 : (Cond.lays "java/lang/IllegalArgumentException" "java/lang/Throwable" "depth" "I") ∈ gw := gw_1 189 (by decide +kernel) rfl
theorem wd_191 : (Cond.classLink "CountRounds" 65 "java/lang/UnsupportedOperationException") ∈ gw := gw_1 191 (by decide +kernel) rfl
theorem wd_192 : (Cond.instantiable "java/lang/UnsupportedOperationException" 6) ∈ gw := gw_1 192 (by decide +kernel) rfl
theorem wd_194 : (Cond.selects "java/lang/UnsupportedOperationException" ({ cls := "java/lang/Throwable", name := "fillInStackTrace", desc := "(I)Ljava/lang/Throwable;" } : MethodName) ({ cls := "java/lang/Throwable", name := "fillInStackTrace", desc := "(I)Ljava/lang/Throwable;" } : MethodName)) ∈ gw := gw_1 194 (by decide +kernel) rfl
theorem wd_195 : (Cond.lays "java/lang/UnsupportedOperationException" "java/lang/Throwable" "cause" "Ljava/lang/Throwable;") ∈ gw := gw_1 195 (by decide +kernel) rfl
theorem wd_196 : (Cond.lays "java/lang/UnsupportedOperationException" "java/lang/Throwable" "stackTrace" "[Ljava/lang/StackTraceElement;") ∈ gw := gw_1 196 (by decide +kernel) rfl
theorem wd_197 : (Cond.lays "java/lang/UnsupportedOperationException" "java/lang/Throwable" "suppressedExceptions" "Ljava/util/List;") ∈ gw := gw_1 197 (by decide +kernel) rfl
theorem wd_198 : (Cond.lays "java/lang/UnsupportedOperationException" "java/lang/Throwable" "detailMessage" "Ljava/lang/String;") ∈ gw := gw_1 198 (by decide +kernel) rfl
theorem wd_199 : (Cond.lays "java/lang/UnsupportedOperationException" "java/lang/Throwable" "backtrace" "Ljava/lang/Object;") ∈ gw := gw_1 199 (by decide +kernel) rfl
theorem wd_201 : (Cond.methodLink "CountRounds" 69 ({ cls := "java/lang/UnsupportedOperationException", name := "<init>", desc := "(Ljava/lang/String;)V" } : MethodName)) ∈ gw := gw_1 201 (by decide +kernel) rfl
theorem wd_202 : (Cond.instanceMethod ({ cls := "java/lang/UnsupportedOperationException", name := "<init>", desc := "(Ljava/lang/String;)V" } : MethodName)) ∈ gw := gw_1 202 (by decide +kernel) rfl
theorem wd_203 : (Cond.code ({ cls := "java/lang/UnsupportedOperationException", name := "<init>", desc := "(Ljava/lang/String;)V" } : MethodName) prog_16_method_2_code 2 (Option.none : Option FieldType)) ∈ gw := gw_1 203 rfl rfl
theorem wd_204 : (Cond.methodLink "java/lang/UnsupportedOperationException" 7 ({ cls := "java/lang/RuntimeException", name := "<init>", desc := "(Ljava/lang/String;)V" } : MethodName)) ∈ gw := gw_1 204 (by decide +kernel) rfl
theorem wd_205 : (Cond.lays "java/lang/UnsupportedOperationException" "java/lang/Throwable" "depth" "I") ∈ gw := gw_1 205 (by decide +kernel) rfl
theorem wd_207 : (Cond.instantiable "CountRounds$Place" 4) ∈ gw := gw_1 207 (by decide +kernel) rfl
theorem wd_209 : (Cond.instanceMethod ({ cls := "CountRounds$Place", name := "<init>", desc := "(I)V" } : MethodName)) ∈ gw := gw_1 209 (by decide +kernel) rfl
theorem wd_210 : (Cond.code ({ cls := "CountRounds$Place", name := "<init>", desc := "(I)V" } : MethodName) prog_2_method_1_code 2 (Option.none : Option FieldType)) ∈ gw := gw_1 210 rfl rfl
theorem wd_211 : (Cond.methodLink "CountRounds$Place" 3 ({ cls := "java/lang/Object", name := "<init>", desc := "()V" } : MethodName)) ∈ gw := gw_1 211 (by decide +kernel) rfl
theorem wd_212 : (Cond.fieldLink "CountRounds$Place" 19 "CountRounds$Place" "kind" "I") ∈ gw := gw_1 212 (by decide +kernel) rfl
theorem wd_214 : (Cond.fieldLink "CountRounds$Place" 9 "CountRounds$Place" "pieces" "[I") ∈ gw := gw_1 214 (by decide +kernel) rfl
theorem wd_216 : (Cond.fieldLink "CountRounds$Place" 15 "CountRounds$Place" "countedOn" "I") ∈ gw := gw_1 216 (by decide +kernel) rfl
theorem wd_219 : (Cond.laysFinal "CountRounds$Place" "CountRounds$Place" "kind" "I") ∈ gw := gw_1 219 (by decide +kernel) rfl
theorem wd_221 : (Cond.laysFinal "CountRounds$Place" "CountRounds$Place" "pieces" "[I") ∈ gw := gw_1 221 (by decide +kernel) rfl
theorem wd_223 : (Cond.lays "CountRounds$Place" "CountRounds$Place" "countedOn" "I") ∈ gw := gw_1 223 (by decide +kernel) rfl
theorem wd_225 : (Cond.lays "CountRounds$Place" "CountRounds$Place" "taken" "Z") ∈ gw := gw_1 225 (by decide +kernel) rfl
theorem wd_228 : (Cond.methodLink "CountRoundsLaw" 106 ({ cls := "CountRoundsLaw", name := "stock", desc := "(LCountRounds;III)I" } : MethodName)) ∈ gw := gw_1 228 (by decide +kernel) rfl
theorem wd_229 : (Cond.static ({ cls := "CountRoundsLaw", name := "stock", desc := "(LCountRounds;III)I" } : MethodName)) ∈ gw := gw_1 229 (by decide +kernel) rfl
theorem wd_230 : (Cond.codeWith ({ cls := "CountRoundsLaw", name := "stock", desc := "(LCountRounds;III)I" } : MethodName) method_4_code 5 (Option.some FieldType.int) [(0, 7, 10, 21), (0, 7, 14, 13)]) ∈ gw := gw_1 230 rfl rfl
theorem wd_231 : (Cond.classLink "CountRoundsLaw" 21 "java/util/NoSuchElementException") ∈ gw := gw_1 231 (by decide +kernel) rfl
theorem wd_232 : (Cond.methodLink "CountRoundsLaw" 17 ({ cls := "CountRounds", name := "stock", desc := "(III)V" } : MethodName)) ∈ gw := gw_1 232 (by decide +kernel) rfl
theorem wd_233 : (Cond.instanceMethod ({ cls := "CountRounds", name := "stock", desc := "(III)V" } : MethodName)) ∈ gw := gw_1 233 (by decide +kernel) rfl
theorem wd_234 : (Cond.selects "CountRounds" ({ cls := "CountRounds", name := "stock", desc := "(III)V" } : MethodName) ({ cls := "CountRounds", name := "stock", desc := "(III)V" } : MethodName)) ∈ gw := gw_1 234 (by decide +kernel) rfl
theorem wd_235 : (Cond.code ({ cls := "CountRounds", name := "stock", desc := "(III)V" } : MethodName) prog_1_method_3_code 5 (Option.none : Option FieldType)) ∈ gw := gw_1 235 rfl rfl
theorem wd_236 : (Cond.methodLink "CountRounds" 73 ({ cls := "CountRounds", name := "placeNumbered", desc := "(I)LCountRounds$Place;" } : MethodName)) ∈ gw := gw_1 236 (by decide +kernel) rfl
theorem wd_238 : (Cond.instanceMethod ({ cls := "CountRounds", name := "placeNumbered", desc := "(I)LCountRounds$Place;" } : MethodName)) ∈ gw := gw_1 238 (by decide +kernel) rfl
theorem wd_239 : (Cond.code ({ cls := "CountRounds", name := "placeNumbered", desc := "(I)LCountRounds$Place;" } : MethodName) prog_1_method_30_code 3 (Option.some (FieldType.object "CountRounds$Place"))) ∈ gw := gw_1 239 rfl rfl
theorem wd_241 : (Cond.methodLink "CountRounds" 77 ({ cls := "CountRounds", name := "isGood", desc := "(I)Z" } : MethodName)) ∈ gw := gw_2 1 (by decide +kernel) rfl
theorem wd_242 : (Cond.static ({ cls := "CountRounds", name := "isGood", desc := "(I)Z" } : MethodName)) ∈ gw := gw_2 2 (by decide +kernel) rfl
theorem wd_243 : (Cond.code ({ cls := "CountRounds", name := "isGood", desc := "(I)Z" } : MethodName) prog_1_method_26_code 1 (Option.some FieldType.boolean)) ∈ gw := gw_2 3 rfl rfl
theorem wd_244 : (Cond.methodLink "CountRounds" 80 ({ cls := "CountRounds", name := "isPieces", desc := "(I)Z" } : MethodName)) ∈ gw := gw_2 4 (by decide +kernel) rfl
theorem wd_245 : (Cond.static ({ cls := "CountRounds", name := "isPieces", desc := "(I)Z" } : MethodName)) ∈ gw := gw_2 5 (by decide +kernel) rfl
theorem wd_246 : (Cond.code ({ cls := "CountRounds", name := "isPieces", desc := "(I)Z" } : MethodName) prog_1_method_28_code 1 (Option.some FieldType.boolean)) ∈ gw := gw_2 6 rfl rfl
theorem wd_247 : (Cond.constant "CountRounds" 114 (1000000 : Int32)) ∈ gw := gw_2 7 (by decide +kernel) rfl
theorem wd_249 : (Cond.methodLink "CountRoundsLaw" 110 ({ cls := "CountRoundsLaw", name := "cycle", desc := "(LCountRounds;III)I" } : MethodName)) ∈ gw := gw_2 9 (by decide +kernel) rfl
theorem wd_250 : (Cond.static ({ cls := "CountRoundsLaw", name := "cycle", desc := "(LCountRounds;III)I" } : MethodName)) ∈ gw := gw_2 10 (by decide +kernel) rfl
theorem wd_251 : (Cond.codeWith ({ cls := "CountRoundsLaw", name := "cycle", desc := "(LCountRounds;III)I" } : MethodName) method_5_code 5 (Option.some FieldType.int) [(0, 7, 10, 13)]) ∈ gw := gw_2 11 rfl rfl
theorem wd_252 : (Cond.methodLink "CountRoundsLaw" 23 ({ cls := "CountRounds", name := "cycle", desc := "(III)V" } : MethodName)) ∈ gw := gw_2 12 (by decide +kernel) rfl
theorem wd_253 : (Cond.instanceMethod ({ cls := "CountRounds", name := "cycle", desc := "(III)V" } : MethodName)) ∈ gw := gw_2 13 (by decide +kernel) rfl
theorem wd_254 : (Cond.selects "CountRounds" ({ cls := "CountRounds", name := "cycle", desc := "(III)V" } : MethodName) ({ cls := "CountRounds", name := "cycle", desc := "(III)V" } : MethodName)) ∈ gw := gw_2 14 (by decide +kernel) rfl
theorem wd_255 : (Cond.code ({ cls := "CountRounds", name := "cycle", desc := "(III)V" } : MethodName) prog_1_method_4_code 4 (Option.none : Option FieldType)) ∈ gw := gw_2 15 rfl rfl
theorem wd_257 : (Cond.methodLink "CountRoundsLaw" 113 ({ cls := "CountRoundsLaw", name := "right", desc := "(LCountRounds;II)I" } : MethodName)) ∈ gw := gw_2 17 (by decide +kernel) rfl
theorem wd_258 : (Cond.static ({ cls := "CountRoundsLaw", name := "right", desc := "(LCountRounds;II)I" } : MethodName)) ∈ gw := gw_2 18 (by decide +kernel) rfl
theorem wd_259 : (Cond.codeWith ({ cls := "CountRoundsLaw", name := "right", desc := "(LCountRounds;II)I" } : MethodName) method_6_code 4 (Option.some FieldType.int) [(0, 6, 9, 13)]) ∈ gw := gw_2 19 rfl rfl
theorem wd_260 : (Cond.methodLink "CountRoundsLaw" 26 ({ cls := "CountRounds", name := "right", desc := "(II)V" } : MethodName)) ∈ gw := gw_2 20 (by decide +kernel) rfl
theorem wd_261 : (Cond.instanceMethod ({ cls := "CountRounds", name := "right", desc := "(II)V" } : MethodName)) ∈ gw := gw_2 21 (by decide +kernel) rfl
theorem wd_262 : (Cond.selects "CountRounds" ({ cls := "CountRounds", name := "right", desc := "(II)V" } : MethodName) ({ cls := "CountRounds", name := "right", desc := "(II)V" } : MethodName)) ∈ gw := gw_2 22 (by decide +kernel) rfl
theorem wd_263 : (Cond.code ({ cls := "CountRounds", name := "right", desc := "(II)V" } : MethodName) prog_1_method_5_code 3 (Option.none : Option FieldType)) ∈ gw := gw_2 23 rfl rfl
theorem wd_264 : (Cond.methodLink "CountRounds" 94 ({ cls := "CountRounds", name := "isPerson", desc := "(I)Z" } : MethodName)) ∈ gw := gw_2 24 (by decide +kernel) rfl
theorem wd_265 : (Cond.static ({ cls := "CountRounds", name := "isPerson", desc := "(I)Z" } : MethodName)) ∈ gw := gw_2 25 (by decide +kernel) rfl
theorem wd_266 : (Cond.code ({ cls := "CountRounds", name := "isPerson", desc := "(I)Z" } : MethodName) prog_1_method_27_code 1 (Option.some FieldType.boolean)) ∈ gw := gw_2 26 rfl rfl
theorem wd_268 : (Cond.methodLink "CountRoundsLaw" 117 ({ cls := "CountRoundsLaw", name := "setting", desc := "(LCountRounds;I)I" } : MethodName)) ∈ gw := gw_2 28 (by decide +kernel) rfl
theorem wd_269 : (Cond.static ({ cls := "CountRoundsLaw", name := "setting", desc := "(LCountRounds;I)I" } : MethodName)) ∈ gw := gw_2 29 (by decide +kernel) rfl
theorem wd_270 : (Cond.codeWith ({ cls := "CountRoundsLaw", name := "setting", desc := "(LCountRounds;I)I" } : MethodName) method_7_code 3 (Option.some FieldType.int) [(0, 5, 8, 13)]) ∈ gw := gw_2 30 rfl rfl
theorem wd_271 : (Cond.methodLink "CountRoundsLaw" 30 ({ cls := "CountRounds", name := "setting", desc := "(I)V" } : MethodName)) ∈ gw := gw_2 31 (by decide +kernel) rfl
theorem wd_272 : (Cond.instanceMethod ({ cls := "CountRounds", name := "setting", desc := "(I)V" } : MethodName)) ∈ gw := gw_2 32 (by decide +kernel) rfl
theorem wd_273 : (Cond.selects "CountRounds" ({ cls := "CountRounds", name := "setting", desc := "(I)V" } : MethodName) ({ cls := "CountRounds", name := "setting", desc := "(I)V" } : MethodName)) ∈ gw := gw_2 33 (by decide +kernel) rfl
theorem wd_274 : (Cond.code ({ cls := "CountRounds", name := "setting", desc := "(I)V" } : MethodName) prog_1_method_6_code 2 (Option.none : Option FieldType)) ∈ gw := gw_2 34 rfl rfl
theorem wd_276 : (Cond.methodLink "CountRoundsLaw" 121 ({ cls := "CountRoundsLaw", name := "day", desc := "(LCountRounds;I)I" } : MethodName)) ∈ gw := gw_2 36 (by decide +kernel) rfl
theorem wd_277 : (Cond.static ({ cls := "CountRoundsLaw", name := "day", desc := "(LCountRounds;I)I" } : MethodName)) ∈ gw := gw_2 37 (by decide +kernel) rfl
theorem wd_278 : (Cond.codeWith ({ cls := "CountRoundsLaw", name := "day", desc := "(LCountRounds;I)I" } : MethodName) method_8_code 3 (Option.some FieldType.int) [(0, 5, 8, 13), (0, 5, 11, 37)]) ∈ gw := gw_2 38 rfl rfl
theorem wd_279 : (Cond.classLink "CountRoundsLaw" 37 "java/lang/IllegalStateException") ∈ gw := gw_2 39 (by decide +kernel) rfl
theorem wd_280 : (Cond.methodLink "CountRoundsLaw" 34 ({ cls := "CountRounds", name := "day", desc := "(I)V" } : MethodName)) ∈ gw := gw_2 40 (by decide +kernel) rfl
theorem wd_281 : (Cond.instanceMethod ({ cls := "CountRounds", name := "day", desc := "(I)V" } : MethodName)) ∈ gw := gw_2 41 (by decide +kernel) rfl
theorem wd_282 : (Cond.selects "CountRounds" ({ cls := "CountRounds", name := "day", desc := "(I)V" } : MethodName) ({ cls := "CountRounds", name := "day", desc := "(I)V" } : MethodName)) ∈ gw := gw_2 42 (by decide +kernel) rfl
theorem wd_283 : (Cond.code ({ cls := "CountRounds", name := "day", desc := "(I)V" } : MethodName) prog_1_method_7_code 2 (Option.none : Option FieldType)) ∈ gw := gw_2 43 rfl rfl
theorem wd_284 : (Cond.methodLink "CountRounds" 101 ({ cls := "CountRounds", name := "isDay", desc := "(I)Z" } : MethodName)) ∈ gw := gw_2 44 (by decide +kernel) rfl
theorem wd_285 : (Cond.static ({ cls := "CountRounds", name := "isDay", desc := "(I)Z" } : MethodName)) ∈ gw := gw_2 45 (by decide +kernel) rfl
theorem wd_286 : (Cond.code ({ cls := "CountRounds", name := "isDay", desc := "(I)Z" } : MethodName) prog_1_method_29_code 1 (Option.some FieldType.boolean)) ∈ gw := gw_2 46 rfl rfl
theorem wd_288 : (Cond.classLink "CountRounds" 109 "java/lang/IllegalStateException") ∈ gw := gw_2 48 (by decide +kernel) rfl
theorem wd_289 : (Cond.instantiable "java/lang/IllegalStateException" 6) ∈ gw := gw_2 49 (by decide +kernel) rfl
theorem wd_291 : (Cond.selects "java/lang/IllegalStateException" ({ cls := "java/lang/Throwable", name := "fillInStackTrace", desc := "(I)Ljava/lang/Throwable;" } : MethodName) ({ cls := "java/lang/Throwable", name := "fillInStackTrace", desc := "(I)Ljava/lang/Throwable;" } : MethodName)) ∈ gw := gw_2 51 (by decide +kernel) rfl
theorem wd_292 : (Cond.lays "java/lang/IllegalStateException" "java/lang/Throwable" "cause" "Ljava/lang/Throwable;") ∈ gw := gw_2 52 (by decide +kernel) rfl
theorem wd_293 : (Cond.lays "java/lang/IllegalStateException" "java/lang/Throwable" "stackTrace" "[Ljava/lang/StackTraceElement;") ∈ gw := gw_2 53 (by decide +kernel) rfl
theorem wd_294 : (Cond.lays "java/lang/IllegalStateException" "java/lang/Throwable" "suppressedExceptions" "Ljava/util/List;") ∈ gw := gw_2 54 (by decide +kernel) rfl
theorem wd_295 : (Cond.lays "java/lang/IllegalStateException" "java/lang/Throwable" "detailMessage" "Ljava/lang/String;") ∈ gw := gw_2 55 (by decide +kernel) rfl
theorem wd_296 : (Cond.lays "java/lang/IllegalStateException" "java/lang/Throwable" "backtrace" "Ljava/lang/Object;") ∈ gw := gw_2 56 (by decide +kernel) rfl
theorem wd_298 : (Cond.methodLink "CountRounds" 113 ({ cls := "java/lang/IllegalStateException", name := "<init>", desc := "(Ljava/lang/String;)V" } : MethodName)) ∈ gw := gw_2 58 (by decide +kernel) rfl
theorem wd_299 : (Cond.instanceMethod ({ cls := "java/lang/IllegalStateException", name := "<init>", desc := "(Ljava/lang/String;)V" } : MethodName)) ∈ gw := gw_2 59 (by decide +kernel) rfl
theorem wd_300 : (Cond.code ({ cls := "java/lang/IllegalStateException", name := "<init>", desc := "(Ljava/lang/String;)V" } : MethodName) prog_10_method_2_code 2 (Option.none : Option FieldType)) ∈ gw := gw_2 60 rfl rfl
theorem wd_301 : (Cond.methodLink "java/lang/IllegalStateException" 7 ({ cls := "java/lang/RuntimeException", name := "<init>", desc := "(Ljava/lang/String;)V" } : MethodName)) ∈ gw := gw_2 61 (by decide +kernel) rfl
theorem wd_302 : (Cond.lays "java/lang/IllegalStateException" "java/lang/Throwable" "depth" "I") ∈ gw := gw_2 62 (by decide +kernel) rfl
theorem wd_304 : (Cond.methodLink "CountRoundsLaw" 124 ({ cls := "CountRoundsLaw", name := "move", desc := "(LCountRounds;IIII[J)I" } : MethodName)) ∈ gw := gw_2 64 (by decide +kernel) rfl
theorem wd_305 : (Cond.static ({ cls := "CountRoundsLaw", name := "move", desc := "(LCountRounds;IIII[J)I" } : MethodName)) ∈ gw := gw_2 65 (by decide +kernel) rfl
theorem wd_306 : (Cond.codeWith ({ cls := "CountRoundsLaw", name := "move", desc := "(LCountRounds;IIII[J)I" } : MethodName) method_9_code 7 (Option.some FieldType.int) [(0, 14, 17, 21), (0, 14, 21, 13), (0, 14, 25, 37), (0, 14, 29, 15)]) ∈ gw := gw_2 66 rfl rfl
theorem wd_307 : (Cond.methodLink "CountRoundsLaw" 39 ({ cls := "CountRounds", name := "move", desc := "(IIII)I" } : MethodName)) ∈ gw := gw_2 67 (by decide +kernel) rfl
theorem wd_308 : (Cond.instanceMethod ({ cls := "CountRounds", name := "move", desc := "(IIII)I" } : MethodName)) ∈ gw := gw_2 68 (by decide +kernel) rfl
theorem wd_309 : (Cond.selects "CountRounds" ({ cls := "CountRounds", name := "move", desc := "(IIII)I" } : MethodName) ({ cls := "CountRounds", name := "move", desc := "(IIII)I" } : MethodName)) ∈ gw := gw_2 69 (by decide +kernel) rfl
theorem wd_310 : (Cond.code ({ cls := "CountRounds", name := "move", desc := "(IIII)I" } : MethodName) prog_1_method_8_code 6 (Option.some FieldType.int)) ∈ gw := gw_2 70 rfl rfl
theorem wd_314 : (Cond.instantiable "CountRounds$Transfer" 5) ∈ gw := gw_2 74 (by decide +kernel) rfl
theorem wd_316 : (Cond.instanceMethod ({ cls := "CountRounds$Transfer", name := "<init>", desc := "(IIII)V" } : MethodName)) ∈ gw := gw_2 76 (by decide +kernel) rfl
theorem wd_317 : (Cond.code ({ cls := "CountRounds$Transfer", name := "<init>", desc := "(IIII)V" } : MethodName) prog_4_method_1_code 5 (Option.none : Option FieldType)) ∈ gw := gw_2 77 rfl rfl
theorem wd_318 : (Cond.methodLink "CountRounds$Transfer" 1 ({ cls := "java/lang/Object", name := "<init>", desc := "()V" } : MethodName)) ∈ gw := gw_2 78 (by decide +kernel) rfl
theorem wd_319 : (Cond.fieldLink "CountRounds$Transfer" 13 "CountRounds$Transfer" "from" "I") ∈ gw := gw_2 79 (by decide +kernel) rfl
theorem wd_321 : (Cond.fieldLink "CountRounds$Transfer" 17 "CountRounds$Transfer" "to" "I") ∈ gw := gw_2 81 (by decide +kernel) rfl
theorem wd_323 : (Cond.fieldLink "CountRounds$Transfer" 20 "CountRounds$Transfer" "good" "I") ∈ gw := gw_2 83 (by decide +kernel) rfl
theorem wd_325 : (Cond.fieldLink "CountRounds$Transfer" 23 "CountRounds$Transfer" "pieces" "I") ∈ gw := gw_2 85 (by decide +kernel) rfl
theorem wd_327 : (Cond.fieldLink "CountRounds$Transfer" 7 "CountRounds$Transfer" "open" "Z") ∈ gw := gw_2 87 (by decide +kernel) rfl
theorem wd_329 : (Cond.laysFinal "CountRounds$Transfer" "CountRounds$Transfer" "from" "I") ∈ gw := gw_2 89 (by decide +kernel) rfl
theorem wd_331 : (Cond.laysFinal "CountRounds$Transfer" "CountRounds$Transfer" "to" "I") ∈ gw := gw_2 91 (by decide +kernel) rfl
theorem wd_333 : (Cond.laysFinal "CountRounds$Transfer" "CountRounds$Transfer" "good" "I") ∈ gw := gw_2 93 (by decide +kernel) rfl
theorem wd_335 : (Cond.laysFinal "CountRounds$Transfer" "CountRounds$Transfer" "pieces" "I") ∈ gw := gw_2 95 (by decide +kernel) rfl
theorem wd_337 : (Cond.lays "CountRounds$Transfer" "CountRounds$Transfer" "open" "Z") ∈ gw := gw_2 97 (by decide +kernel) rfl
theorem wd_340 : (Cond.methodLink "CountRoundsLaw" 128 ({ cls := "CountRoundsLaw", name := "end", desc := "(LCountRounds;I)I" } : MethodName)) ∈ gw := gw_2 100 (by decide +kernel) rfl
theorem wd_341 : (Cond.static ({ cls := "CountRoundsLaw", name := "end", desc := "(LCountRounds;I)I" } : MethodName)) ∈ gw := gw_2 101 (by decide +kernel) rfl
theorem wd_342 : (Cond.codeWith ({ cls := "CountRoundsLaw", name := "end", desc := "(LCountRounds;I)I" } : MethodName) method_10_code 3 (Option.some FieldType.int) [(0, 5, 8, 21), (0, 5, 11, 37)]) ∈ gw := gw_2 102 rfl rfl
theorem wd_343 : (Cond.methodLink "CountRoundsLaw" 43 ({ cls := "CountRounds", name := "end", desc := "(I)V" } : MethodName)) ∈ gw := gw_2 103 (by decide +kernel) rfl
theorem wd_344 : (Cond.instanceMethod ({ cls := "CountRounds", name := "end", desc := "(I)V" } : MethodName)) ∈ gw := gw_2 104 (by decide +kernel) rfl
theorem wd_345 : (Cond.selects "CountRounds" ({ cls := "CountRounds", name := "end", desc := "(I)V" } : MethodName) ({ cls := "CountRounds", name := "end", desc := "(I)V" } : MethodName)) ∈ gw := gw_2 105 (by decide +kernel) rfl
theorem wd_346 : (Cond.code ({ cls := "CountRounds", name := "end", desc := "(I)V" } : MethodName) prog_1_method_9_code 5 (Option.none : Option FieldType)) ∈ gw := gw_2 106 rfl rfl
theorem wd_348 : (Cond.methodLink "CountRoundsLaw" 131 ({ cls := "CountRoundsLaw", name := "moves", desc := "(LCountRounds;I[J)I" } : MethodName)) ∈ gw := gw_2 108 (by decide +kernel) rfl
theorem wd_349 : (Cond.static ({ cls := "CountRoundsLaw", name := "moves", desc := "(LCountRounds;I[J)I" } : MethodName)) ∈ gw := gw_2 109 (by decide +kernel) rfl
theorem wd_350 : (Cond.codeWith ({ cls := "CountRoundsLaw", name := "moves", desc := "(LCountRounds;I[J)I" } : MethodName) method_11_code 4 (Option.some FieldType.int) [(0, 9, 12, 21)]) ∈ gw := gw_2 110 rfl rfl
theorem wd_351 : (Cond.methodLink "CountRoundsLaw" 46 ({ cls := "CountRounds", name := "moves", desc := "(I)I" } : MethodName)) ∈ gw := gw_2 111 (by decide +kernel) rfl
theorem wd_352 : (Cond.instanceMethod ({ cls := "CountRounds", name := "moves", desc := "(I)I" } : MethodName)) ∈ gw := gw_2 112 (by decide +kernel) rfl
theorem wd_353 : (Cond.selects "CountRounds" ({ cls := "CountRounds", name := "moves", desc := "(I)I" } : MethodName) ({ cls := "CountRounds", name := "moves", desc := "(I)I" } : MethodName)) ∈ gw := gw_2 113 (by decide +kernel) rfl
theorem wd_354 : (Cond.code ({ cls := "CountRounds", name := "moves", desc := "(I)I" } : MethodName) prog_1_method_10_code 2 (Option.some FieldType.int)) ∈ gw := gw_2 114 rfl rfl
theorem wd_355 : (Cond.methodLink "CountRounds" 144 ({ cls := "CountRounds", name := "openMovesAt", desc := "(I)I" } : MethodName)) ∈ gw := gw_2 115 (by decide +kernel) rfl
theorem wd_357 : (Cond.instanceMethod ({ cls := "CountRounds", name := "openMovesAt", desc := "(I)I" } : MethodName)) ∈ gw := gw_2 117 (by decide +kernel) rfl
theorem wd_358 : (Cond.code ({ cls := "CountRounds", name := "openMovesAt", desc := "(I)I" } : MethodName) prog_1_method_35_code 5 (Option.some FieldType.int)) ∈ gw := gw_2 118 rfl rfl
theorem wd_359 : (Cond.methodLink "CountRoundsLaw" 136 ({ cls := "CountRoundsLaw", name := "round", desc := "(LCountRounds;IIJ[J)I" } : MethodName)) ∈ gw := gw_2 119 (by decide +kernel) rfl
theorem wd_360 : (Cond.static ({ cls := "CountRoundsLaw", name := "round", desc := "(LCountRounds;IIJ[J)I" } : MethodName)) ∈ gw := gw_2 120 (by decide +kernel) rfl
theorem wd_361 : (Cond.codeWith ({ cls := "CountRoundsLaw", name := "round", desc := "(LCountRounds;IIJ[J)I" } : MethodName) method_12_code 7 (Option.some FieldType.int) [(0, 12, 15, 13), (0, 12, 19, 37), (0, 12, 23, 15)]) ∈ gw := gw_2 121 rfl rfl
theorem wd_362 : (Cond.methodLink "CountRoundsLaw" 49 ({ cls := "CountRounds", name := "round", desc := "(IIJ)I" } : MethodName)) ∈ gw := gw_2 122 (by decide +kernel) rfl
theorem wd_363 : (Cond.instanceMethod ({ cls := "CountRounds", name := "round", desc := "(IIJ)I" } : MethodName)) ∈ gw := gw_2 123 (by decide +kernel) rfl
theorem wd_364 : (Cond.selects "CountRounds" ({ cls := "CountRounds", name := "round", desc := "(IIJ)I" } : MethodName) ({ cls := "CountRounds", name := "round", desc := "(IIJ)I" } : MethodName)) ∈ gw := gw_2 124 (by decide +kernel) rfl
theorem wd_365 : (Cond.code ({ cls := "CountRounds", name := "round", desc := "(IIJ)I" } : MethodName) prog_1_method_11_code 8 (Option.some FieldType.int)) ∈ gw := gw_2 125 rfl rfl
theorem wd_367 : (Cond.methodLink "CountRounds" 150 ({ cls := "CountRounds", name := "gatherCandidates", desc := "(I)I" } : MethodName)) ∈ gw := gw_2 127 (by decide +kernel) rfl
theorem wd_369 : (Cond.instanceMethod ({ cls := "CountRounds", name := "gatherCandidates", desc := "(I)I" } : MethodName)) ∈ gw := gw_2 129 (by decide +kernel) rfl
theorem wd_370 : (Cond.code ({ cls := "CountRounds", name := "gatherCandidates", desc := "(I)I" } : MethodName) prog_1_method_37_code 5 (Option.some FieldType.int)) ∈ gw := gw_2 130 rfl rfl
theorem wd_373 : (Cond.methodLink "CountRounds" 160 ({ cls := "java/lang/Math", name := "min", desc := "(II)I" } : MethodName)) ∈ gw := gw_2 133 (by decide +kernel) rfl
theorem wd_374 : (Cond.static ({ cls := "java/lang/Math", name := "min", desc := "(II)I" } : MethodName)) ∈ gw := gw_2 134 (by decide +kernel) rfl
theorem wd_375 : (Cond.code ({ cls := "java/lang/Math", name := "min", desc := "(II)I" } : MethodName) prog_11_method_69_code 2 (Option.some FieldType.int)) ∈ gw := gw_2 135 rfl rfl
theorem wd_376 : (Cond.methodLink "CountRounds" 166 ({ cls := "CountRounds", name := "chooseCandidates", desc := "(IIJ)[I" } : MethodName)) ∈ gw := gw_2 136 (by decide +kernel) rfl
theorem wd_378 : (Cond.instanceMethod ({ cls := "CountRounds", name := "chooseCandidates", desc := "(IIJ)[I" } : MethodName)) ∈ gw := gw_2 138 (by decide +kernel) rfl
theorem wd_379 : (Cond.code ({ cls := "CountRounds", name := "chooseCandidates", desc := "(IIJ)[I" } : MethodName) prog_1_method_38_code 11 (Option.some (FieldType.array FieldType.int))) ∈ gw := gw_2 139 rfl rfl
theorem wd_380 : (Cond.methodLink "CountRounds" 303 ({ cls := "CountRounds", name := "longestUncounted", desc := "(I)I" } : MethodName)) ∈ gw := gw_2 140 (by decide +kernel) rfl
theorem wd_382 : (Cond.instanceMethod ({ cls := "CountRounds", name := "longestUncounted", desc := "(I)I" } : MethodName)) ∈ gw := gw_2 142 (by decide +kernel) rfl
theorem wd_383 : (Cond.code ({ cls := "CountRounds", name := "longestUncounted", desc := "(I)I" } : MethodName) prog_1_method_39_code 4 (Option.some FieldType.int)) ∈ gw := gw_2 143 rfl rfl
theorem wd_384 : (Cond.constantLong "CountRounds" 306 (6364136223846793005 : Int64)) ∈ gw := gw_2 144 (by decide +kernel) rfl
theorem wd_385 : (Cond.constantLong "CountRounds" 308 (1442695040888963407 : Int64)) ∈ gw := gw_2 145 (by decide +kernel) rfl
theorem wd_386 : (Cond.methodLink "CountRounds" 310 ({ cls := "java/lang/System", name := "arraycopy", desc := "(Ljava/lang/Object;ILjava/lang/Object;II)V" } : MethodName)) ∈ gw := gw_2 146 (by decide +kernel) rfl
theorem wd_387 : (Cond.static ({ cls := "java/lang/System", name := "arraycopy", desc := "(Ljava/lang/Object;ILjava/lang/Object;II)V" } : MethodName)) ∈ gw := gw_2 147 (by decide +kernel) rfl
theorem wd_388 : (Cond.native ({ cls := "java/lang/System", name := "arraycopy", desc := "(Ljava/lang/Object;ILjava/lang/Object;II)V" } : MethodName)) ∈ gw := gw_2 148 (by decide +kernel) rfl
theorem wd_389 : (Cond.instantiable "CountRounds$Sheet" 11) ∈ gw := gw_2 149 (by decide +kernel) rfl
theorem wd_391 : (Cond.instanceMethod ({ cls := "CountRounds$Sheet", name := "<init>", desc := "([I)V" } : MethodName)) ∈ gw := gw_2 151 (by decide +kernel) rfl
theorem wd_392 : (Cond.code ({ cls := "CountRounds$Sheet", name := "<init>", desc := "([I)V" } : MethodName) prog_3_method_1_code 3 (Option.none : Option FieldType)) ∈ gw := gw_2 152 rfl rfl
theorem wd_393 : (Cond.methodLink "CountRounds$Sheet" 3 ({ cls := "java/lang/Object", name := "<init>", desc := "()V" } : MethodName)) ∈ gw := gw_2 153 (by decide +kernel) rfl
theorem wd_394 : (Cond.methodLink "CountRounds$Sheet" 41 ({ cls := "java/util/Arrays", name := "fill", desc := "([II)V" } : MethodName)) ∈ gw := gw_2 154 (by decide +kernel) rfl
theorem wd_395 : (Cond.fieldLink "CountRounds$Sheet" 15 "CountRounds$Sheet" "members" "[I") ∈ gw := gw_2 155 (by decide +kernel) rfl
theorem wd_397 : (Cond.fieldLink "CountRounds$Sheet" 19 "CountRounds$Sheet" "noted" "[I") ∈ gw := gw_2 157 (by decide +kernel) rfl
theorem wd_399 : (Cond.fieldLink "CountRounds$Sheet" 22 "CountRounds$Sheet" "pieces" "[I") ∈ gw := gw_2 159 (by decide +kernel) rfl
theorem wd_400 : (Cond.fieldLink "CountRounds$Sheet" 25 "CountRounds$Sheet" "firstFinders" "[I") ∈ gw := gw_2 160 (by decide +kernel) rfl
theorem wd_401 : (Cond.fieldLink "CountRounds$Sheet" 28 "CountRounds$Sheet" "secondFinders" "[I") ∈ gw := gw_2 161 (by decide +kernel) rfl
theorem wd_402 : (Cond.fieldLink "CountRounds$Sheet" 31 "CountRounds$Sheet" "askers" "[I") ∈ gw := gw_2 162 (by decide +kernel) rfl
theorem wd_404 : (Cond.fieldLink "CountRounds$Sheet" 34 "CountRounds$Sheet" "corrected" "[Z") ∈ gw := gw_2 164 (by decide +kernel) rfl
theorem wd_406 : (Cond.fieldLink "CountRounds$Sheet" 38 "CountRounds$Sheet" "differing" "[I") ∈ gw := gw_2 166 (by decide +kernel) rfl
theorem wd_407 : (Cond.fieldLink "CountRounds$Sheet" 50 "CountRounds$Sheet" "differences" "I") ∈ gw := gw_2 167 (by decide +kernel) rfl
theorem wd_409 : (Cond.fieldLink "CountRounds$Sheet" 47 "CountRounds$Sheet" "findings" "I") ∈ gw := gw_2 169 (by decide +kernel) rfl
theorem wd_411 : (Cond.fieldLink "CountRounds$Sheet" 9 "CountRounds$Sheet" "state" "I") ∈ gw := gw_2 171 (by decide +kernel) rfl
theorem wd_413 : (Cond.laysFinal "CountRounds$Sheet" "CountRounds$Sheet" "members" "[I") ∈ gw := gw_2 173 (by decide +kernel) rfl
theorem wd_415 : (Cond.laysFinal "CountRounds$Sheet" "CountRounds$Sheet" "noted" "[I") ∈ gw := gw_2 175 (by decide +kernel) rfl
theorem wd_417 : (Cond.laysFinal "CountRounds$Sheet" "CountRounds$Sheet" "pieces" "[I") ∈ gw := gw_2 177 (by decide +kernel) rfl
theorem wd_419 : (Cond.laysFinal "CountRounds$Sheet" "CountRounds$Sheet" "firstFinders" "[I") ∈ gw := gw_2 179 (by decide +kernel) rfl
theorem wd_421 : (Cond.laysFinal "CountRounds$Sheet" "CountRounds$Sheet" "secondFinders" "[I") ∈ gw := gw_2 181 (by decide +kernel) rfl
theorem wd_423 : (Cond.laysFinal "CountRounds$Sheet" "CountRounds$Sheet" "askers" "[I") ∈ gw := gw_2 183 (by decide +kernel) rfl
theorem wd_425 : (Cond.laysFinal "CountRounds$Sheet" "CountRounds$Sheet" "corrected" "[Z") ∈ gw := gw_2 185 (by decide +kernel) rfl
theorem wd_427 : (Cond.laysFinal "CountRounds$Sheet" "CountRounds$Sheet" "differing" "[I") ∈ gw := gw_2 187 (by decide +kernel) rfl
theorem wd_429 : (Cond.lays "CountRounds$Sheet" "CountRounds$Sheet" "differences" "I") ∈ gw := gw_2 189 (by decide +kernel) rfl
theorem wd_431 : (Cond.lays "CountRounds$Sheet" "CountRounds$Sheet" "findings" "I") ∈ gw := gw_2 191 (by decide +kernel) rfl
theorem wd_433 : (Cond.lays "CountRounds$Sheet" "CountRounds$Sheet" "state" "I") ∈ gw := gw_2 193 (by decide +kernel) rfl
theorem wd_436 : (Cond.arrayClass FieldType.boolean) ∈ gw := gw_2 196 (by decide +kernel) rfl
theorem wd_437 : (Cond.methodLink "CountRoundsLaw" 140 ({ cls := "CountRoundsLaw", name := "freeze", desc := "(LCountRounds;I[J)I" } : MethodName)) ∈ gw := gw_2 197 (by decide +kernel) rfl
theorem wd_438 : (Cond.static ({ cls := "CountRoundsLaw", name := "freeze", desc := "(LCountRounds;I[J)I" } : MethodName)) ∈ gw := gw_2 198 (by decide +kernel) rfl
theorem wd_439 : (Cond.codeWith ({ cls := "CountRoundsLaw", name := "freeze", desc := "(LCountRounds;I[J)I" } : MethodName) method_13_code 4 (Option.some FieldType.int) [(0, 9, 12, 21), (0, 9, 15, 37)]) ∈ gw := gw_2 199 rfl rfl
theorem wd_440 : (Cond.methodLink "CountRoundsLaw" 53 ({ cls := "CountRounds", name := "freeze", desc := "(I)I" } : MethodName)) ∈ gw := gw_2 200 (by decide +kernel) rfl
theorem wd_441 : (Cond.instanceMethod ({ cls := "CountRounds", name := "freeze", desc := "(I)I" } : MethodName)) ∈ gw := gw_2 201 (by decide +kernel) rfl
theorem wd_442 : (Cond.selects "CountRounds" ({ cls := "CountRounds", name := "freeze", desc := "(I)I" } : MethodName) ({ cls := "CountRounds", name := "freeze", desc := "(I)I" } : MethodName)) ∈ gw := gw_2 202 (by decide +kernel) rfl
theorem wd_443 : (Cond.code ({ cls := "CountRounds", name := "freeze", desc := "(I)I" } : MethodName) prog_1_method_12_code 3 (Option.some FieldType.int)) ∈ gw := gw_2 203 rfl rfl
theorem wd_444 : (Cond.methodLink "CountRounds" 173 ({ cls := "CountRounds", name := "sheetNumbered", desc := "(I)LCountRounds$Sheet;" } : MethodName)) ∈ gw := gw_2 204 (by decide +kernel) rfl
theorem wd_446 : (Cond.instanceMethod ({ cls := "CountRounds", name := "sheetNumbered", desc := "(I)LCountRounds$Sheet;" } : MethodName)) ∈ gw := gw_2 206 (by decide +kernel) rfl
theorem wd_447 : (Cond.code ({ cls := "CountRounds", name := "sheetNumbered", desc := "(I)LCountRounds$Sheet;" } : MethodName) prog_1_method_32_code 3 (Option.some (FieldType.object "CountRounds$Sheet"))) ∈ gw := gw_2 207 rfl rfl
theorem wd_450 : (Cond.methodLink "CountRounds" 182 ({ cls := "CountRounds", name := "hasOpenMoves", desc := "(LCountRounds$Sheet;)Z" } : MethodName)) ∈ gw := gw_2 210 (by decide +kernel) rfl
theorem wd_452 : (Cond.instanceMethod ({ cls := "CountRounds", name := "hasOpenMoves", desc := "(LCountRounds$Sheet;)Z" } : MethodName)) ∈ gw := gw_2 212 (by decide +kernel) rfl
theorem wd_453 : (Cond.code ({ cls := "CountRounds", name := "hasOpenMoves", desc := "(LCountRounds$Sheet;)Z" } : MethodName) prog_1_method_36_code 3 (Option.some FieldType.boolean)) ∈ gw := gw_2 213 rfl rfl
theorem wd_454 : (Cond.methodLink "CountRounds" 186 ({ cls := "CountRounds", name := "noteBooked", desc := "(LCountRounds$Sheet;)V" } : MethodName)) ∈ gw := gw_2 214 (by decide +kernel) rfl
theorem wd_456 : (Cond.instanceMethod ({ cls := "CountRounds", name := "noteBooked", desc := "(LCountRounds$Sheet;)V" } : MethodName)) ∈ gw := gw_2 216 (by decide +kernel) rfl
theorem wd_457 : (Cond.code ({ cls := "CountRounds", name := "noteBooked", desc := "(LCountRounds$Sheet;)V" } : MethodName) prog_1_method_40_code 5 (Option.none : Option FieldType)) ∈ gw := gw_2 217 rfl rfl
theorem wd_460 : (Cond.instanceMethod ({ cls := "CountRounds$Sheet", name := "positionOf", desc := "(I)I" } : MethodName)) ∈ gw := gw_2 220 (by decide +kernel) rfl
theorem wd_461 : (Cond.code ({ cls := "CountRounds$Sheet", name := "positionOf", desc := "(I)I" } : MethodName) prog_3_method_2_code 3 (Option.some FieldType.int)) ∈ gw := gw_2 221 rfl rfl
theorem wd_462 : (Cond.methodLink "CountRoundsLaw" 143 ({ cls := "CountRoundsLaw", name := "found", desc := "(LCountRounds;IIIII[J)I" } : MethodName)) ∈ gw := gw_2 222 (by decide +kernel) rfl
theorem wd_463 : (Cond.static ({ cls := "CountRoundsLaw", name := "found", desc := "(LCountRounds;IIIII[J)I" } : MethodName)) ∈ gw := gw_2 223 (by decide +kernel) rfl
theorem wd_464 : (Cond.codeWith ({ cls := "CountRoundsLaw", name := "found", desc := "(LCountRounds;IIIII[J)I" } : MethodName) method_14_code 8 (Option.some FieldType.int) [(0, 16, 19, 21), (0, 16, 23, 13)]) ∈ gw := gw_2 224 rfl rfl
theorem wd_465 : (Cond.methodLink "CountRoundsLaw" 56 ({ cls := "CountRounds", name := "found", desc := "(IIIII)I" } : MethodName)) ∈ gw := gw_2 225 (by decide +kernel) rfl
theorem wd_466 : (Cond.instanceMethod ({ cls := "CountRounds", name := "found", desc := "(IIIII)I" } : MethodName)) ∈ gw := gw_2 226 (by decide +kernel) rfl
theorem wd_467 : (Cond.selects "CountRounds" ({ cls := "CountRounds", name := "found", desc := "(IIIII)I" } : MethodName) ({ cls := "CountRounds", name := "found", desc := "(IIIII)I" } : MethodName)) ∈ gw := gw_2 227 (by decide +kernel) rfl
theorem wd_468 : (Cond.code ({ cls := "CountRounds", name := "found", desc := "(IIIII)I" } : MethodName) prog_1_method_13_code 8 (Option.some FieldType.int)) ∈ gw := gw_2 228 rfl rfl
theorem wd_472 : (Cond.instanceMethod ({ cls := "CountRounds$Sheet", name := "tell", desc := "(III)I" } : MethodName)) ∈ gw := gw_2 232 (by decide +kernel) rfl
theorem wd_473 : (Cond.code ({ cls := "CountRounds$Sheet", name := "tell", desc := "(III)I" } : MethodName) prog_3_method_3_code 4 (Option.some FieldType.int)) ∈ gw := gw_2 233 rfl rfl
theorem wd_474 : (Cond.methodLink "CountRoundsLaw" 147 ({ cls := "CountRoundsLaw", name := "second", desc := "(LCountRounds;III[J)I" } : MethodName)) ∈ gw := gw_2 234 (by decide +kernel) rfl
theorem wd_475 : (Cond.static ({ cls := "CountRoundsLaw", name := "second", desc := "(LCountRounds;III[J)I" } : MethodName)) ∈ gw := gw_2 235 (by decide +kernel) rfl
theorem wd_476 : (Cond.codeWith ({ cls := "CountRoundsLaw", name := "second", desc := "(LCountRounds;III[J)I" } : MethodName) method_15_code 6 (Option.some FieldType.int) [(0, 19, 22, 21), (0, 19, 26, 13), (0, 19, 30, 37)]) ∈ gw := gw_2 236 rfl rfl
theorem wd_477 : (Cond.methodLink "CountRoundsLaw" 60 ({ cls := "CountRounds", name := "second", desc := "(III)Z" } : MethodName)) ∈ gw := gw_2 237 (by decide +kernel) rfl
theorem wd_478 : (Cond.instanceMethod ({ cls := "CountRounds", name := "second", desc := "(III)Z" } : MethodName)) ∈ gw := gw_2 238 (by decide +kernel) rfl
theorem wd_479 : (Cond.selects "CountRounds" ({ cls := "CountRounds", name := "second", desc := "(III)Z" } : MethodName) ({ cls := "CountRounds", name := "second", desc := "(III)Z" } : MethodName)) ∈ gw := gw_2 239 (by decide +kernel) rfl
theorem wd_480 : (Cond.code ({ cls := "CountRounds", name := "second", desc := "(III)Z" } : MethodName) prog_1_method_14_code 8 (Option.some FieldType.boolean)) ∈ gw := gw_3 0 rfl rfl
theorem wd_486 : (Cond.instanceMethod ({ cls := "CountRounds$Sheet", name := "isToldOnce", desc := "(I)Z" } : MethodName)) ∈ gw := gw_3 6 (by decide +kernel) rfl
theorem wd_487 : (Cond.code ({ cls := "CountRounds$Sheet", name := "isToldOnce", desc := "(I)Z" } : MethodName) prog_3_method_4_code 2 (Option.some FieldType.boolean)) ∈ gw := gw_3 7 rfl rfl
theorem wd_490 : (Cond.instanceMethod ({ cls := "CountRounds$Sheet", name := "differenceOf", desc := "(I)I" } : MethodName)) ∈ gw := gw_3 10 (by decide +kernel) rfl
theorem wd_491 : (Cond.code ({ cls := "CountRounds$Sheet", name := "differenceOf", desc := "(I)I" } : MethodName) prog_3_method_7_code 2 (Option.some FieldType.int)) ∈ gw := gw_3 11 rfl rfl
theorem wd_492 : (Cond.methodLink "CountRounds" 217 ({ cls := "CountRounds", name := "isTolerated", desc := "(ILCountRounds$Place;)Z" } : MethodName)) ∈ gw := gw_3 12 (by decide +kernel) rfl
theorem wd_494 : (Cond.instanceMethod ({ cls := "CountRounds", name := "isTolerated", desc := "(ILCountRounds$Place;)Z" } : MethodName)) ∈ gw := gw_3 14 (by decide +kernel) rfl
theorem wd_495 : (Cond.code ({ cls := "CountRounds", name := "isTolerated", desc := "(ILCountRounds$Place;)Z" } : MethodName) prog_1_method_42_code 3 (Option.some FieldType.boolean)) ∈ gw := gw_3 15 rfl rfl
theorem wd_496 : (Cond.methodLink "CountRounds" 322 ({ cls := "java/lang/Math", name := "abs", desc := "(I)I" } : MethodName)) ∈ gw := gw_3 16 (by decide +kernel) rfl
theorem wd_497 : (Cond.static ({ cls := "java/lang/Math", name := "abs", desc := "(I)I" } : MethodName)) ∈ gw := gw_3 17 (by decide +kernel) rfl
theorem wd_498 : (Cond.code ({ cls := "java/lang/Math", name := "abs", desc := "(I)I" } : MethodName) prog_11_method_59_code 1 (Option.some FieldType.int)) ∈ gw := gw_3 18 rfl rfl
theorem wd_499 : (Cond.methodLink "CountRoundsLaw" 151 ({ cls := "CountRoundsLaw", name := "close", desc := "(LCountRounds;I[J)I" } : MethodName)) ∈ gw := gw_3 19 (by decide +kernel) rfl
theorem wd_500 : (Cond.static ({ cls := "CountRoundsLaw", name := "close", desc := "(LCountRounds;I[J)I" } : MethodName)) ∈ gw := gw_3 20 (by decide +kernel) rfl
theorem wd_501 : (Cond.codeWith ({ cls := "CountRoundsLaw", name := "close", desc := "(LCountRounds;I[J)I" } : MethodName) method_16_code 4 (Option.some FieldType.int) [(0, 9, 12, 21), (0, 9, 15, 37)]) ∈ gw := gw_3 21 rfl rfl
theorem wd_502 : (Cond.methodLink "CountRoundsLaw" 64 ({ cls := "CountRounds", name := "close", desc := "(I)I" } : MethodName)) ∈ gw := gw_3 22 (by decide +kernel) rfl
theorem wd_503 : (Cond.instanceMethod ({ cls := "CountRounds", name := "close", desc := "(I)I" } : MethodName)) ∈ gw := gw_3 23 (by decide +kernel) rfl
theorem wd_504 : (Cond.selects "CountRounds" ({ cls := "CountRounds", name := "close", desc := "(I)I" } : MethodName) ({ cls := "CountRounds", name := "close", desc := "(I)I" } : MethodName)) ∈ gw := gw_3 24 (by decide +kernel) rfl
theorem wd_505 : (Cond.code ({ cls := "CountRounds", name := "close", desc := "(I)I" } : MethodName) prog_1_method_15_code 5 (Option.some FieldType.int)) ∈ gw := gw_3 25 rfl rfl
theorem wd_508 : (Cond.instanceMethod ({ cls := "CountRounds$Sheet", name := "isPlaceTold", desc := "(I)Z" } : MethodName)) ∈ gw := gw_3 28 (by decide +kernel) rfl
theorem wd_509 : (Cond.code ({ cls := "CountRounds$Sheet", name := "isPlaceTold", desc := "(I)Z" } : MethodName) prog_3_method_5_code 3 (Option.some FieldType.boolean)) ∈ gw := gw_3 29 rfl rfl
theorem wd_510 : (Cond.methodLink "CountRounds" 227 ({ cls := "CountRounds", name := "countPlace", desc := "(LCountRounds$Sheet;ILCountRounds$Place;)V" } : MethodName)) ∈ gw := gw_3 30 (by decide +kernel) rfl
theorem wd_512 : (Cond.instanceMethod ({ cls := "CountRounds", name := "countPlace", desc := "(LCountRounds$Sheet;ILCountRounds$Place;)V" } : MethodName)) ∈ gw := gw_3 32 (by decide +kernel) rfl
theorem wd_513 : (Cond.code ({ cls := "CountRounds", name := "countPlace", desc := "(LCountRounds$Sheet;ILCountRounds$Place;)V" } : MethodName) prog_1_method_41_code 8 (Option.none : Option FieldType)) ∈ gw := gw_3 33 rfl rfl
theorem wd_516 : (Cond.instanceMethod ({ cls := "CountRounds$Sheet", name := "addDifference", desc := "(I)V" } : MethodName)) ∈ gw := gw_3 36 (by decide +kernel) rfl
theorem wd_517 : (Cond.code ({ cls := "CountRounds$Sheet", name := "addDifference", desc := "(I)V" } : MethodName) prog_3_method_8_code 2 (Option.none : Option FieldType)) ∈ gw := gw_3 37 rfl rfl
theorem wd_518 : (Cond.methodLink "CountRoundsLaw" 154 ({ cls := "CountRoundsLaw", name := "differ", desc := "(LCountRounds;III[J)I" } : MethodName)) ∈ gw := gw_3 38 (by decide +kernel) rfl
theorem wd_519 : (Cond.static ({ cls := "CountRoundsLaw", name := "differ", desc := "(LCountRounds;III[J)I" } : MethodName)) ∈ gw := gw_3 39 (by decide +kernel) rfl
theorem wd_520 : (Cond.codeWith ({ cls := "CountRoundsLaw", name := "differ", desc := "(LCountRounds;III[J)I" } : MethodName) method_17_code 6 (Option.some FieldType.int) [(0, 12, 15, 21), (0, 12, 19, 13)]) ∈ gw := gw_3 40 rfl rfl
theorem wd_521 : (Cond.methodLink "CountRoundsLaw" 67 ({ cls := "CountRounds", name := "differ", desc := "(III)I" } : MethodName)) ∈ gw := gw_3 41 (by decide +kernel) rfl
theorem wd_522 : (Cond.instanceMethod ({ cls := "CountRounds", name := "differ", desc := "(III)I" } : MethodName)) ∈ gw := gw_3 42 (by decide +kernel) rfl
theorem wd_523 : (Cond.selects "CountRounds" ({ cls := "CountRounds", name := "differ", desc := "(III)I" } : MethodName) ({ cls := "CountRounds", name := "differ", desc := "(III)I" } : MethodName)) ∈ gw := gw_3 43 (by decide +kernel) rfl
theorem wd_524 : (Cond.code ({ cls := "CountRounds", name := "differ", desc := "(III)I" } : MethodName) prog_1_method_16_code 6 (Option.some FieldType.int)) ∈ gw := gw_3 44 rfl rfl
theorem wd_525 : (Cond.methodLink "CountRounds" 234 ({ cls := "CountRounds", name := "lineOfDifference", desc := "(LCountRounds$Sheet;I)I" } : MethodName)) ∈ gw := gw_3 45 (by decide +kernel) rfl
theorem wd_526 : (Cond.static ({ cls := "CountRounds", name := "lineOfDifference", desc := "(LCountRounds$Sheet;I)I" } : MethodName)) ∈ gw := gw_3 46 (by decide +kernel) rfl
theorem wd_527 : (Cond.code ({ cls := "CountRounds", name := "lineOfDifference", desc := "(LCountRounds$Sheet;I)I" } : MethodName) prog_1_method_33_code 3 (Option.some FieldType.int)) ∈ gw := gw_3 47 rfl rfl
theorem wd_530 : (Cond.instanceMethod ({ cls := "CountRounds$Sheet", name := "differingLine", desc := "(I)I" } : MethodName)) ∈ gw := gw_3 50 (by decide +kernel) rfl
theorem wd_531 : (Cond.code ({ cls := "CountRounds$Sheet", name := "differingLine", desc := "(I)I" } : MethodName) prog_3_method_9_code 2 (Option.some FieldType.int)) ∈ gw := gw_3 51 rfl rfl
theorem wd_535 : (Cond.instanceMethod ({ cls := "CountRounds$Sheet", name := "finderOf", desc := "(I)I" } : MethodName)) ∈ gw := gw_3 55 (by decide +kernel) rfl
theorem wd_536 : (Cond.code ({ cls := "CountRounds$Sheet", name := "finderOf", desc := "(I)I" } : MethodName) prog_3_method_6_code 2 (Option.some FieldType.int)) ∈ gw := gw_3 56 rfl rfl
theorem wd_538 : (Cond.methodLink "CountRoundsLaw" 157 ({ cls := "CountRoundsLaw", name := "correct", desc := "(LCountRounds;III[J)I" } : MethodName)) ∈ gw := gw_3 58 (by decide +kernel) rfl
theorem wd_539 : (Cond.static ({ cls := "CountRoundsLaw", name := "correct", desc := "(LCountRounds;III[J)I" } : MethodName)) ∈ gw := gw_3 59 (by decide +kernel) rfl
theorem wd_540 : (Cond.codeWith ({ cls := "CountRoundsLaw", name := "correct", desc := "(LCountRounds;III[J)I" } : MethodName) method_18_code 6 (Option.some FieldType.int) [(0, 19, 22, 21), (0, 19, 26, 13), (0, 19, 30, 37)]) ∈ gw := gw_3 60 rfl rfl
theorem wd_541 : (Cond.methodLink "CountRoundsLaw" 71 ({ cls := "CountRounds", name := "correct", desc := "(III)Z" } : MethodName)) ∈ gw := gw_3 61 (by decide +kernel) rfl
theorem wd_542 : (Cond.instanceMethod ({ cls := "CountRounds", name := "correct", desc := "(III)Z" } : MethodName)) ∈ gw := gw_3 62 (by decide +kernel) rfl
theorem wd_543 : (Cond.selects "CountRounds" ({ cls := "CountRounds", name := "correct", desc := "(III)Z" } : MethodName) ({ cls := "CountRounds", name := "correct", desc := "(III)Z" } : MethodName)) ∈ gw := gw_3 63 (by decide +kernel) rfl
theorem wd_544 : (Cond.code ({ cls := "CountRounds", name := "correct", desc := "(III)Z" } : MethodName) prog_1_method_17_code 8 (Option.some FieldType.boolean)) ∈ gw := gw_3 64 rfl rfl
theorem wd_547 : (Cond.methodLink "CountRounds" 254 ({ cls := "CountRounds", name := "mayCorrect", desc := "(LCountRounds$Sheet;II)Z" } : MethodName)) ∈ gw := gw_3 67 (by decide +kernel) rfl
theorem wd_549 : (Cond.instanceMethod ({ cls := "CountRounds", name := "mayCorrect", desc := "(LCountRounds$Sheet;II)Z" } : MethodName)) ∈ gw := gw_3 69 (by decide +kernel) rfl
theorem wd_550 : (Cond.code ({ cls := "CountRounds", name := "mayCorrect", desc := "(LCountRounds$Sheet;II)Z" } : MethodName) prog_1_method_43_code 7 (Option.some FieldType.boolean)) ∈ gw := gw_3 70 rfl rfl
theorem wd_552 : (Cond.methodLink "CountRoundsLaw" 160 ({ cls := "CountRoundsLaw", name := "share", desc := "(LCountRounds;I[J)I" } : MethodName)) ∈ gw := gw_3 72 (by decide +kernel) rfl
theorem wd_553 : (Cond.static ({ cls := "CountRoundsLaw", name := "share", desc := "(LCountRounds;I[J)I" } : MethodName)) ∈ gw := gw_3 73 (by decide +kernel) rfl
theorem wd_554 : (Cond.codeWith ({ cls := "CountRoundsLaw", name := "share", desc := "(LCountRounds;I[J)I" } : MethodName) method_19_code 4 (Option.some FieldType.int) [(0, 9, 12, 13), (0, 9, 15, 77)]) ∈ gw := gw_3 74 rfl rfl
theorem wd_555 : (Cond.classLink "CountRoundsLaw" 77 "java/lang/ArithmeticException") ∈ gw := gw_3 75 (by decide +kernel) rfl
theorem wd_556 : (Cond.methodLink "CountRoundsLaw" 74 ({ cls := "CountRounds", name := "share", desc := "(I)I" } : MethodName)) ∈ gw := gw_3 76 (by decide +kernel) rfl
theorem wd_557 : (Cond.instanceMethod ({ cls := "CountRounds", name := "share", desc := "(I)I" } : MethodName)) ∈ gw := gw_3 77 (by decide +kernel) rfl
theorem wd_558 : (Cond.selects "CountRounds" ({ cls := "CountRounds", name := "share", desc := "(I)I" } : MethodName) ({ cls := "CountRounds", name := "share", desc := "(I)I" } : MethodName)) ∈ gw := gw_3 78 (by decide +kernel) rfl
theorem wd_559 : (Cond.code ({ cls := "CountRounds", name := "share", desc := "(I)I" } : MethodName) prog_1_method_18_code 3 (Option.some FieldType.int)) ∈ gw := gw_3 79 rfl rfl
theorem wd_561 : (Cond.methodLink "CountRounds" 268 ({ cls := "CountRounds", name := "commonDivisor", desc := "(II)I" } : MethodName)) ∈ gw := gw_3 81 (by decide +kernel) rfl
theorem wd_562 : (Cond.static ({ cls := "CountRounds", name := "commonDivisor", desc := "(II)I" } : MethodName)) ∈ gw := gw_3 82 (by decide +kernel) rfl
theorem wd_563 : (Cond.code ({ cls := "CountRounds", name := "commonDivisor", desc := "(II)I" } : MethodName) prog_1_method_44_code 6 (Option.some FieldType.int)) ∈ gw := gw_3 83 rfl rfl
theorem wd_564 : (Cond.classLink "CountRounds" 271 "java/lang/ArithmeticException") ∈ gw := gw_3 84 (by decide +kernel) rfl
theorem wd_565 : (Cond.instantiable "java/lang/ArithmeticException" 6) ∈ gw := gw_3 85 (by decide +kernel) rfl
theorem wd_567 : (Cond.selects "java/lang/ArithmeticException" ({ cls := "java/lang/Throwable", name := "fillInStackTrace", desc := "(I)Ljava/lang/Throwable;" } : MethodName) ({ cls := "java/lang/Throwable", name := "fillInStackTrace", desc := "(I)Ljava/lang/Throwable;" } : MethodName)) ∈ gw := gw_3 87 (by decide +kernel) rfl
theorem wd_568 : (Cond.lays "java/lang/ArithmeticException" "java/lang/Throwable" "cause" "Ljava/lang/Throwable;") ∈ gw := gw_3 88 (by decide +kernel) rfl
theorem wd_569 : (Cond.lays "java/lang/ArithmeticException" "java/lang/Throwable" "stackTrace" "[Ljava/lang/StackTraceElement;") ∈ gw := gw_3 89 (by decide +kernel) rfl
theorem wd_570 : (Cond.lays "java/lang/ArithmeticException" "java/lang/Throwable" "suppressedExceptions" "Ljava/util/List;") ∈ gw := gw_3 90 (by decide +kernel) rfl
theorem wd_571 : (Cond.lays "java/lang/ArithmeticException" "java/lang/Throwable" "detailMessage" "Ljava/lang/String;") ∈ gw := gw_3 91 (by decide +kernel) rfl
theorem wd_572 : (Cond.lays "java/lang/ArithmeticException" "java/lang/Throwable" "backtrace" "Ljava/lang/Object;") ∈ gw := gw_3 92 (by decide +kernel) rfl
theorem wd_574 : (Cond.methodLink "CountRounds" 275 ({ cls := "java/lang/ArithmeticException", name := "<init>", desc := "(Ljava/lang/String;)V" } : MethodName)) ∈ gw := gw_3 94 (by decide +kernel) rfl
theorem wd_575 : (Cond.instanceMethod ({ cls := "java/lang/ArithmeticException", name := "<init>", desc := "(Ljava/lang/String;)V" } : MethodName)) ∈ gw := gw_3 95 (by decide +kernel) rfl
theorem wd_576 : (Cond.code ({ cls := "java/lang/ArithmeticException", name := "<init>", desc := "(Ljava/lang/String;)V" } : MethodName) prog_7_method_2_code 2 (Option.none : Option FieldType)) ∈ gw := gw_3 96 rfl rfl
theorem wd_577 : (Cond.methodLink "java/lang/ArithmeticException" 7 ({ cls := "java/lang/RuntimeException", name := "<init>", desc := "(Ljava/lang/String;)V" } : MethodName)) ∈ gw := gw_3 97 (by decide +kernel) rfl
theorem wd_578 : (Cond.lays "java/lang/ArithmeticException" "java/lang/Throwable" "depth" "I") ∈ gw := gw_3 98 (by decide +kernel) rfl
theorem wd_580 : (Cond.methodLink "CountRoundsLaw" 163 ({ cls := "CountRoundsLaw", name := "last", desc := "(LCountRounds;I[J)I" } : MethodName)) ∈ gw := gw_3 100 (by decide +kernel) rfl
theorem wd_581 : (Cond.static ({ cls := "CountRoundsLaw", name := "last", desc := "(LCountRounds;I[J)I" } : MethodName)) ∈ gw := gw_3 101 (by decide +kernel) rfl
theorem wd_582 : (Cond.codeWith ({ cls := "CountRoundsLaw", name := "last", desc := "(LCountRounds;I[J)I" } : MethodName) method_20_code 4 (Option.some FieldType.int) [(0, 9, 12, 21)]) ∈ gw := gw_3 102 rfl rfl
theorem wd_583 : (Cond.methodLink "CountRoundsLaw" 79 ({ cls := "CountRounds", name := "last", desc := "(I)I" } : MethodName)) ∈ gw := gw_3 103 (by decide +kernel) rfl
theorem wd_584 : (Cond.instanceMethod ({ cls := "CountRounds", name := "last", desc := "(I)I" } : MethodName)) ∈ gw := gw_3 104 (by decide +kernel) rfl
theorem wd_585 : (Cond.selects "CountRounds" ({ cls := "CountRounds", name := "last", desc := "(I)I" } : MethodName) ({ cls := "CountRounds", name := "last", desc := "(I)I" } : MethodName)) ∈ gw := gw_3 105 (by decide +kernel) rfl
theorem wd_586 : (Cond.code ({ cls := "CountRounds", name := "last", desc := "(I)I" } : MethodName) prog_1_method_19_code 2 (Option.some FieldType.int)) ∈ gw := gw_3 106 rfl rfl
theorem wd_587 : (Cond.methodLink "CountRoundsLaw" 166 ({ cls := "CountRoundsLaw", name := "due", desc := "(LCountRounds;I[J)I" } : MethodName)) ∈ gw := gw_3 107 (by decide +kernel) rfl
theorem wd_588 : (Cond.static ({ cls := "CountRoundsLaw", name := "due", desc := "(LCountRounds;I[J)I" } : MethodName)) ∈ gw := gw_3 108 (by decide +kernel) rfl
theorem wd_589 : (Cond.codeWith ({ cls := "CountRoundsLaw", name := "due", desc := "(LCountRounds;I[J)I" } : MethodName) method_21_code 4 (Option.some FieldType.int) [(0, 9, 12, 13)]) ∈ gw := gw_3 109 rfl rfl
theorem wd_590 : (Cond.methodLink "CountRoundsLaw" 82 ({ cls := "CountRounds", name := "due", desc := "(I)I" } : MethodName)) ∈ gw := gw_3 110 (by decide +kernel) rfl
theorem wd_591 : (Cond.instanceMethod ({ cls := "CountRounds", name := "due", desc := "(I)I" } : MethodName)) ∈ gw := gw_3 111 (by decide +kernel) rfl
theorem wd_592 : (Cond.selects "CountRounds" ({ cls := "CountRounds", name := "due", desc := "(I)I" } : MethodName) ({ cls := "CountRounds", name := "due", desc := "(I)I" } : MethodName)) ∈ gw := gw_3 112 (by decide +kernel) rfl
theorem wd_593 : (Cond.code ({ cls := "CountRounds", name := "due", desc := "(I)I" } : MethodName) prog_1_method_20_code 5 (Option.some FieldType.int)) ∈ gw := gw_3 113 rfl rfl
theorem wd_594 : (Cond.methodLink "CountRoundsLaw" 169 ({ cls := "CountRoundsLaw", name := "booked", desc := "(LCountRounds;II[J)I" } : MethodName)) ∈ gw := gw_3 114 (by decide +kernel) rfl
theorem wd_595 : (Cond.static ({ cls := "CountRoundsLaw", name := "booked", desc := "(LCountRounds;II[J)I" } : MethodName)) ∈ gw := gw_3 115 (by decide +kernel) rfl
theorem wd_596 : (Cond.codeWith ({ cls := "CountRoundsLaw", name := "booked", desc := "(LCountRounds;II[J)I" } : MethodName) method_22_code 5 (Option.some FieldType.int) [(0, 10, 13, 21), (0, 10, 17, 13)]) ∈ gw := gw_3 116 rfl rfl
theorem wd_597 : (Cond.methodLink "CountRoundsLaw" 85 ({ cls := "CountRounds", name := "booked", desc := "(II)I" } : MethodName)) ∈ gw := gw_3 117 (by decide +kernel) rfl
theorem wd_598 : (Cond.instanceMethod ({ cls := "CountRounds", name := "booked", desc := "(II)I" } : MethodName)) ∈ gw := gw_3 118 (by decide +kernel) rfl
theorem wd_599 : (Cond.selects "CountRounds" ({ cls := "CountRounds", name := "booked", desc := "(II)I" } : MethodName) ({ cls := "CountRounds", name := "booked", desc := "(II)I" } : MethodName)) ∈ gw := gw_3 119 (by decide +kernel) rfl
theorem wd_600 : (Cond.code ({ cls := "CountRounds", name := "booked", desc := "(II)I" } : MethodName) prog_1_method_21_code 4 (Option.some FieldType.int)) ∈ gw := gw_3 120 rfl rfl
theorem wd_601 : (Cond.methodLink "CountRoundsLaw" 173 ({ cls := "CountRoundsLaw", name := "told", desc := "(LCountRounds;II[J)I" } : MethodName)) ∈ gw := gw_3 121 (by decide +kernel) rfl
theorem wd_602 : (Cond.static ({ cls := "CountRoundsLaw", name := "told", desc := "(LCountRounds;II[J)I" } : MethodName)) ∈ gw := gw_3 122 (by decide +kernel) rfl
theorem wd_603 : (Cond.codeWith ({ cls := "CountRoundsLaw", name := "told", desc := "(LCountRounds;II[J)I" } : MethodName) method_23_code 5 (Option.some FieldType.int) [(0, 10, 13, 21), (0, 10, 17, 13)]) ∈ gw := gw_3 123 rfl rfl
theorem wd_604 : (Cond.methodLink "CountRoundsLaw" 89 ({ cls := "CountRounds", name := "told", desc := "(II)I" } : MethodName)) ∈ gw := gw_3 124 (by decide +kernel) rfl
theorem wd_605 : (Cond.instanceMethod ({ cls := "CountRounds", name := "told", desc := "(II)I" } : MethodName)) ∈ gw := gw_3 125 (by decide +kernel) rfl
theorem wd_606 : (Cond.selects "CountRounds" ({ cls := "CountRounds", name := "told", desc := "(II)I" } : MethodName) ({ cls := "CountRounds", name := "told", desc := "(II)I" } : MethodName)) ∈ gw := gw_3 126 (by decide +kernel) rfl
theorem wd_607 : (Cond.code ({ cls := "CountRounds", name := "told", desc := "(II)I" } : MethodName) prog_1_method_22_code 5 (Option.some FieldType.int)) ∈ gw := gw_3 127 rfl rfl
theorem wd_608 : (Cond.classLink "CountRoundsLaw" 93 "CountRoundsModel") ∈ gw := gw_3 128 (by decide +kernel) rfl
theorem wd_609 : (Cond.instantiable "CountRoundsModel" 29) ∈ gw := gw_3 129 (by decide +kernel) rfl
theorem wd_610 : (Cond.methodLink "CountRoundsLaw" 95 ({ cls := "CountRoundsModel", name := "<init>", desc := "()V" } : MethodName)) ∈ gw := gw_3 130 (by decide +kernel) rfl
theorem wd_611 : (Cond.instanceMethod ({ cls := "CountRoundsModel", name := "<init>", desc := "()V" } : MethodName)) ∈ gw := gw_3 131 (by decide +kernel) rfl
theorem wd_612 : (Cond.code ({ cls := "CountRoundsModel", name := "<init>", desc := "()V" } : MethodName) prog_6_method_1_code 1 (Option.none : Option FieldType)) ∈ gw := gw_3 132 rfl rfl
theorem wd_613 : (Cond.methodLink "CountRoundsModel" 1 ({ cls := "java/lang/Object", name := "<init>", desc := "()V" } : MethodName)) ∈ gw := gw_3 133 (by decide +kernel) rfl
theorem wd_614 : (Cond.fieldLink "CountRoundsModel" 74 "CountRoundsModel" "code" "I") ∈ gw := gw_3 134 (by decide +kernel) rfl
theorem wd_615 : (Cond.fieldLink "CountRoundsModel" 102 "CountRoundsModel" "today" "I") ∈ gw := gw_3 135 (by decide +kernel) rfl
theorem wd_616 : (Cond.fieldLink "CountRoundsModel" 99 "CountRoundsModel" "wait" "I") ∈ gw := gw_3 136 (by decide +kernel) rfl
theorem wd_617 : (Cond.fieldLink "CountRoundsModel" 78 "CountRoundsModel" "places" "I") ∈ gw := gw_3 137 (by decide +kernel) rfl
theorem wd_618 : (Cond.fieldLink "CountRoundsModel" 7 "CountRoundsModel" "classOf" "[I") ∈ gw := gw_3 138 (by decide +kernel) rfl
theorem wd_619 : (Cond.fieldLink "CountRoundsModel" 13 "CountRoundsModel" "lastDay" "[I") ∈ gw := gw_3 139 (by decide +kernel) rfl
theorem wd_620 : (Cond.fieldLink "CountRoundsModel" 16 "CountRoundsModel" "booked" "[I") ∈ gw := gw_3 140 (by decide +kernel) rfl
theorem wd_621 : (Cond.fieldLink "CountRoundsModel" 19 "CountRoundsModel" "cycles" "[I") ∈ gw := gw_3 141 (by decide +kernel) rfl
theorem wd_622 : (Cond.fieldLink "CountRoundsModel" 22 "CountRoundsModel" "tolerances" "[I") ∈ gw := gw_3 142 (by decide +kernel) rfl
theorem wd_623 : (Cond.fieldLink "CountRoundsModel" 25 "CountRoundsModel" "rights" "[I") ∈ gw := gw_3 143 (by decide +kernel) rfl
theorem wd_624 : (Cond.fieldLink "CountRoundsModel" 105 "CountRoundsModel" "moves" "I") ∈ gw := gw_3 144 (by decide +kernel) rfl
theorem wd_625 : (Cond.fieldLink "CountRoundsModel" 28 "CountRoundsModel" "moveFrom" "[I") ∈ gw := gw_3 145 (by decide +kernel) rfl
theorem wd_626 : (Cond.fieldLink "CountRoundsModel" 31 "CountRoundsModel" "moveTo" "[I") ∈ gw := gw_3 146 (by decide +kernel) rfl
theorem wd_627 : (Cond.fieldLink "CountRoundsModel" 34 "CountRoundsModel" "moveGood" "[I") ∈ gw := gw_3 147 (by decide +kernel) rfl
theorem wd_628 : (Cond.fieldLink "CountRoundsModel" 37 "CountRoundsModel" "moveMany" "[I") ∈ gw := gw_3 148 (by decide +kernel) rfl
theorem wd_629 : (Cond.fieldLink "CountRoundsModel" 40 "CountRoundsModel" "ended" "[Z") ∈ gw := gw_3 149 (by decide +kernel) rfl
theorem wd_630 : (Cond.fieldLink "CountRoundsModel" 85 "CountRoundsModel" "counts" "I") ∈ gw := gw_3 150 (by decide +kernel) rfl
theorem wd_631 : (Cond.fieldLink "CountRoundsModel" 44 "CountRoundsModel" "state" "[I") ∈ gw := gw_3 151 (by decide +kernel) rfl
theorem wd_632 : (Cond.fieldLink "CountRoundsModel" 47 "CountRoundsModel" "size" "[I") ∈ gw := gw_3 152 (by decide +kernel) rfl
theorem wd_633 : (Cond.fieldLink "CountRoundsModel" 50 "CountRoundsModel" "tellings" "[I") ∈ gw := gw_3 153 (by decide +kernel) rfl
theorem wd_634 : (Cond.fieldLink "CountRoundsModel" 53 "CountRoundsModel" "placeAt" "[I") ∈ gw := gw_3 154 (by decide +kernel) rfl
theorem wd_635 : (Cond.fieldLink "CountRoundsModel" 56 "CountRoundsModel" "noted" "[I") ∈ gw := gw_3 155 (by decide +kernel) rfl
theorem wd_636 : (Cond.fieldLink "CountRoundsModel" 59 "CountRoundsModel" "first" "[I") ∈ gw := gw_3 156 (by decide +kernel) rfl
theorem wd_637 : (Cond.fieldLink "CountRoundsModel" 62 "CountRoundsModel" "second" "[I") ∈ gw := gw_3 157 (by decide +kernel) rfl
theorem wd_638 : (Cond.fieldLink "CountRoundsModel" 65 "CountRoundsModel" "tellers" "[I") ∈ gw := gw_3 158 (by decide +kernel) rfl
theorem wd_639 : (Cond.fieldLink "CountRoundsModel" 68 "CountRoundsModel" "marks" "[I") ∈ gw := gw_3 159 (by decide +kernel) rfl
theorem wd_640 : (Cond.fieldLink "CountRoundsModel" 158 "CountRoundsModel" "counted" "I") ∈ gw := gw_3 160 (by decide +kernel) rfl
theorem wd_641 : (Cond.fieldLink "CountRoundsModel" 161 "CountRoundsModel" "right" "I") ∈ gw := gw_3 161 (by decide +kernel) rfl
theorem wd_642 : (Cond.fieldLink "CountRoundsModel" 71 "CountRoundsModel" "left" "[Z") ∈ gw := gw_3 162 (by decide +kernel) rfl
theorem wd_643 : (Cond.lays "CountRoundsModel" "CountRoundsModel" "code" "I") ∈ gw := gw_3 163 (by decide +kernel) rfl
theorem wd_645 : (Cond.lays "CountRoundsModel" "CountRoundsModel" "today" "I") ∈ gw := gw_3 165 (by decide +kernel) rfl
theorem wd_647 : (Cond.lays "CountRoundsModel" "CountRoundsModel" "wait" "I") ∈ gw := gw_3 167 (by decide +kernel) rfl
theorem wd_649 : (Cond.lays "CountRoundsModel" "CountRoundsModel" "places" "I") ∈ gw := gw_3 169 (by decide +kernel) rfl
theorem wd_651 : (Cond.laysFinal "CountRoundsModel" "CountRoundsModel" "classOf" "[I") ∈ gw := gw_3 171 (by decide +kernel) rfl
theorem wd_653 : (Cond.laysFinal "CountRoundsModel" "CountRoundsModel" "lastDay" "[I") ∈ gw := gw_3 173 (by decide +kernel) rfl
theorem wd_655 : (Cond.laysFinal "CountRoundsModel" "CountRoundsModel" "booked" "[I") ∈ gw := gw_3 175 (by decide +kernel) rfl
theorem wd_657 : (Cond.laysFinal "CountRoundsModel" "CountRoundsModel" "cycles" "[I") ∈ gw := gw_3 177 (by decide +kernel) rfl
theorem wd_659 : (Cond.laysFinal "CountRoundsModel" "CountRoundsModel" "tolerances" "[I") ∈ gw := gw_3 179 (by decide +kernel) rfl
theorem wd_661 : (Cond.laysFinal "CountRoundsModel" "CountRoundsModel" "rights" "[I") ∈ gw := gw_3 181 (by decide +kernel) rfl
theorem wd_663 : (Cond.lays "CountRoundsModel" "CountRoundsModel" "moves" "I") ∈ gw := gw_3 183 (by decide +kernel) rfl
theorem wd_665 : (Cond.laysFinal "CountRoundsModel" "CountRoundsModel" "moveFrom" "[I") ∈ gw := gw_3 185 (by decide +kernel) rfl
theorem wd_667 : (Cond.laysFinal "CountRoundsModel" "CountRoundsModel" "moveTo" "[I") ∈ gw := gw_3 187 (by decide +kernel) rfl
theorem wd_669 : (Cond.laysFinal "CountRoundsModel" "CountRoundsModel" "moveGood" "[I") ∈ gw := gw_3 189 (by decide +kernel) rfl
theorem wd_671 : (Cond.laysFinal "CountRoundsModel" "CountRoundsModel" "moveMany" "[I") ∈ gw := gw_3 191 (by decide +kernel) rfl
theorem wd_673 : (Cond.laysFinal "CountRoundsModel" "CountRoundsModel" "ended" "[Z") ∈ gw := gw_3 193 (by decide +kernel) rfl
theorem wd_675 : (Cond.lays "CountRoundsModel" "CountRoundsModel" "counts" "I") ∈ gw := gw_3 195 (by decide +kernel) rfl
theorem wd_677 : (Cond.laysFinal "CountRoundsModel" "CountRoundsModel" "state" "[I") ∈ gw := gw_3 197 (by decide +kernel) rfl
theorem wd_679 : (Cond.laysFinal "CountRoundsModel" "CountRoundsModel" "size" "[I") ∈ gw := gw_3 199 (by decide +kernel) rfl
theorem wd_681 : (Cond.laysFinal "CountRoundsModel" "CountRoundsModel" "tellings" "[I") ∈ gw := gw_3 201 (by decide +kernel) rfl
theorem wd_683 : (Cond.laysFinal "CountRoundsModel" "CountRoundsModel" "placeAt" "[I") ∈ gw := gw_3 203 (by decide +kernel) rfl
theorem wd_685 : (Cond.laysFinal "CountRoundsModel" "CountRoundsModel" "noted" "[I") ∈ gw := gw_3 205 (by decide +kernel) rfl
theorem wd_687 : (Cond.laysFinal "CountRoundsModel" "CountRoundsModel" "first" "[I") ∈ gw := gw_3 207 (by decide +kernel) rfl
theorem wd_689 : (Cond.laysFinal "CountRoundsModel" "CountRoundsModel" "second" "[I") ∈ gw := gw_3 209 (by decide +kernel) rfl
theorem wd_691 : (Cond.laysFinal "CountRoundsModel" "CountRoundsModel" "tellers" "[I") ∈ gw := gw_3 211 (by decide +kernel) rfl
theorem wd_693 : (Cond.laysFinal "CountRoundsModel" "CountRoundsModel" "marks" "[I") ∈ gw := gw_3 213 (by decide +kernel) rfl
theorem wd_695 : (Cond.lays "CountRoundsModel" "CountRoundsModel" "counted" "I") ∈ gw := gw_3 215 (by decide +kernel) rfl
theorem wd_697 : (Cond.lays "CountRoundsModel" "CountRoundsModel" "right" "I") ∈ gw := gw_3 217 (by decide +kernel) rfl
theorem wd_699 : (Cond.laysFinal "CountRoundsModel" "CountRoundsModel" "left" "[Z") ∈ gw := gw_3 219 (by decide +kernel) rfl
theorem wd_702 : (Cond.methodLink "CountRoundsLaw" 102 ({ cls := "CountRoundsModel", name := "thrown", desc := "()I" } : MethodName)) ∈ gw := gw_3 222 (by decide +kernel) rfl
theorem wd_703 : (Cond.instanceMethod ({ cls := "CountRoundsModel", name := "thrown", desc := "()I" } : MethodName)) ∈ gw := gw_3 223 (by decide +kernel) rfl
theorem wd_704 : (Cond.selects "CountRoundsModel" ({ cls := "CountRoundsModel", name := "thrown", desc := "()I" } : MethodName) ({ cls := "CountRoundsModel", name := "thrown", desc := "()I" } : MethodName)) ∈ gw := gw_3 224 (by decide +kernel) rfl
theorem wd_705 : (Cond.code ({ cls := "CountRoundsModel", name := "thrown", desc := "()I" } : MethodName) prog_6_method_2_code 1 (Option.some FieldType.int)) ∈ gw := gw_3 225 rfl rfl
theorem wd_706 : (Cond.methodLink "CountRoundsLaw" 101 ({ cls := "CountRoundsModel", name := "place", desc := "(I)I" } : MethodName)) ∈ gw := gw_3 226 (by decide +kernel) rfl
theorem wd_707 : (Cond.instanceMethod ({ cls := "CountRoundsModel", name := "place", desc := "(I)I" } : MethodName)) ∈ gw := gw_3 227 (by decide +kernel) rfl
theorem wd_708 : (Cond.selects "CountRoundsModel" ({ cls := "CountRoundsModel", name := "place", desc := "(I)I" } : MethodName) ({ cls := "CountRoundsModel", name := "place", desc := "(I)I" } : MethodName)) ∈ gw := gw_3 228 (by decide +kernel) rfl
theorem wd_709 : (Cond.code ({ cls := "CountRoundsModel", name := "place", desc := "(I)I" } : MethodName) prog_6_method_8_code 2 (Option.some FieldType.int)) ∈ gw := gw_3 229 rfl rfl
theorem wd_710 : (Cond.methodLink "CountRoundsModel" 81 ({ cls := "CountRoundsModel", name := "in", desc := "(III)Z" } : MethodName)) ∈ gw := gw_3 230 (by decide +kernel) rfl
theorem wd_711 : (Cond.static ({ cls := "CountRoundsModel", name := "in", desc := "(III)Z" } : MethodName)) ∈ gw := gw_3 231 (by decide +kernel) rfl
theorem wd_712 : (Cond.code ({ cls := "CountRoundsModel", name := "in", desc := "(III)Z" } : MethodName) prog_6_method_3_code 3 (Option.some FieldType.boolean)) ∈ gw := gw_3 232 rfl rfl
theorem wd_713 : (Cond.methodLink "CountRoundsLaw" 109 ({ cls := "CountRoundsModel", name := "stock", desc := "(III)V" } : MethodName)) ∈ gw := gw_3 233 (by decide +kernel) rfl
theorem wd_714 : (Cond.instanceMethod ({ cls := "CountRoundsModel", name := "stock", desc := "(III)V" } : MethodName)) ∈ gw := gw_3 234 (by decide +kernel) rfl
theorem wd_715 : (Cond.selects "CountRoundsModel" ({ cls := "CountRoundsModel", name := "stock", desc := "(III)V" } : MethodName) ({ cls := "CountRoundsModel", name := "stock", desc := "(III)V" } : MethodName)) ∈ gw := gw_3 235 (by decide +kernel) rfl
theorem wd_716 : (Cond.code ({ cls := "CountRoundsModel", name := "stock", desc := "(III)V" } : MethodName) prog_6_method_9_code 4 (Option.none : Option FieldType)) ∈ gw := gw_3 236 rfl rfl
theorem wd_717 : (Cond.methodLink "CountRoundsModel" 88 ({ cls := "CountRoundsModel", name := "isPlace", desc := "(I)Z" } : MethodName)) ∈ gw := gw_3 237 (by decide +kernel) rfl
theorem wd_719 : (Cond.instanceMethod ({ cls := "CountRoundsModel", name := "isPlace", desc := "(I)Z" } : MethodName)) ∈ gw := gw_3 239 (by decide +kernel) rfl
theorem wd_720 : (Cond.code ({ cls := "CountRoundsModel", name := "isPlace", desc := "(I)Z" } : MethodName) prog_6_method_4_code 2 (Option.some FieldType.boolean)) ∈ gw := gw_4 0 rfl rfl
theorem wd_721 : (Cond.methodLink "CountRoundsModel" 92 ({ cls := "CountRoundsModel", name := "isGood", desc := "(I)Z" } : MethodName)) ∈ gw := gw_4 1 (by decide +kernel) rfl
theorem wd_722 : (Cond.static ({ cls := "CountRoundsModel", name := "isGood", desc := "(I)Z" } : MethodName)) ∈ gw := gw_4 2 (by decide +kernel) rfl
theorem wd_723 : (Cond.code ({ cls := "CountRoundsModel", name := "isGood", desc := "(I)Z" } : MethodName) prog_6_method_5_code 1 (Option.some FieldType.boolean)) ∈ gw := gw_4 3 rfl rfl
theorem wd_724 : (Cond.constant "CountRoundsModel" 95 (1000000 : Int32)) ∈ gw := gw_4 4 (by decide +kernel) rfl
theorem wd_725 : (Cond.methodLink "CountRoundsLaw" 112 ({ cls := "CountRoundsModel", name := "cycle", desc := "(III)V" } : MethodName)) ∈ gw := gw_4 5 (by decide +kernel) rfl
theorem wd_726 : (Cond.instanceMethod ({ cls := "CountRoundsModel", name := "cycle", desc := "(III)V" } : MethodName)) ∈ gw := gw_4 6 (by decide +kernel) rfl
theorem wd_727 : (Cond.selects "CountRoundsModel" ({ cls := "CountRoundsModel", name := "cycle", desc := "(III)V" } : MethodName) ({ cls := "CountRoundsModel", name := "cycle", desc := "(III)V" } : MethodName)) ∈ gw := gw_4 7 (by decide +kernel) rfl
theorem wd_728 : (Cond.code ({ cls := "CountRoundsModel", name := "cycle", desc := "(III)V" } : MethodName) prog_6_method_10_code 4 (Option.none : Option FieldType)) ∈ gw := gw_4 8 rfl rfl
theorem wd_729 : (Cond.methodLink "CountRoundsLaw" 116 ({ cls := "CountRoundsModel", name := "right", desc := "(II)V" } : MethodName)) ∈ gw := gw_4 9 (by decide +kernel) rfl
theorem wd_730 : (Cond.instanceMethod ({ cls := "CountRoundsModel", name := "right", desc := "(II)V" } : MethodName)) ∈ gw := gw_4 10 (by decide +kernel) rfl
theorem wd_731 : (Cond.selects "CountRoundsModel" ({ cls := "CountRoundsModel", name := "right", desc := "(II)V" } : MethodName) ({ cls := "CountRoundsModel", name := "right", desc := "(II)V" } : MethodName)) ∈ gw := gw_4 11 (by decide +kernel) rfl
theorem wd_732 : (Cond.code ({ cls := "CountRoundsModel", name := "right", desc := "(II)V" } : MethodName) prog_6_method_11_code 3 (Option.none : Option FieldType)) ∈ gw := gw_4 12 rfl rfl
theorem wd_733 : (Cond.methodLink "CountRoundsModel" 96 ({ cls := "CountRoundsModel", name := "isPerson", desc := "(I)Z" } : MethodName)) ∈ gw := gw_4 13 (by decide +kernel) rfl
theorem wd_734 : (Cond.static ({ cls := "CountRoundsModel", name := "isPerson", desc := "(I)Z" } : MethodName)) ∈ gw := gw_4 14 (by decide +kernel) rfl
theorem wd_735 : (Cond.code ({ cls := "CountRoundsModel", name := "isPerson", desc := "(I)Z" } : MethodName) prog_6_method_6_code 1 (Option.some FieldType.boolean)) ∈ gw := gw_4 15 rfl rfl
theorem wd_736 : (Cond.methodLink "CountRoundsLaw" 120 ({ cls := "CountRoundsModel", name := "setting", desc := "(I)V" } : MethodName)) ∈ gw := gw_4 16 (by decide +kernel) rfl
theorem wd_737 : (Cond.instanceMethod ({ cls := "CountRoundsModel", name := "setting", desc := "(I)V" } : MethodName)) ∈ gw := gw_4 17 (by decide +kernel) rfl
theorem wd_738 : (Cond.selects "CountRoundsModel" ({ cls := "CountRoundsModel", name := "setting", desc := "(I)V" } : MethodName) ({ cls := "CountRoundsModel", name := "setting", desc := "(I)V" } : MethodName)) ∈ gw := gw_4 18 (by decide +kernel) rfl
theorem wd_739 : (Cond.code ({ cls := "CountRoundsModel", name := "setting", desc := "(I)V" } : MethodName) prog_6_method_12_code 2 (Option.none : Option FieldType)) ∈ gw := gw_4 19 rfl rfl
theorem wd_740 : (Cond.methodLink "CountRoundsLaw" 123 ({ cls := "CountRoundsModel", name := "day", desc := "(I)V" } : MethodName)) ∈ gw := gw_4 20 (by decide +kernel) rfl
theorem wd_741 : (Cond.instanceMethod ({ cls := "CountRoundsModel", name := "day", desc := "(I)V" } : MethodName)) ∈ gw := gw_4 21 (by decide +kernel) rfl
theorem wd_742 : (Cond.selects "CountRoundsModel" ({ cls := "CountRoundsModel", name := "day", desc := "(I)V" } : MethodName) ({ cls := "CountRoundsModel", name := "day", desc := "(I)V" } : MethodName)) ∈ gw := gw_4 22 (by decide +kernel) rfl
theorem wd_743 : (Cond.code ({ cls := "CountRoundsModel", name := "day", desc := "(I)V" } : MethodName) prog_6_method_13_code 2 (Option.none : Option FieldType)) ∈ gw := gw_4 23 rfl rfl
theorem wd_744 : (Cond.methodLink "CountRoundsLaw" 127 ({ cls := "CountRoundsModel", name := "move", desc := "(IIII)I" } : MethodName)) ∈ gw := gw_4 24 (by decide +kernel) rfl
theorem wd_745 : (Cond.instanceMethod ({ cls := "CountRoundsModel", name := "move", desc := "(IIII)I" } : MethodName)) ∈ gw := gw_4 25 (by decide +kernel) rfl
theorem wd_746 : (Cond.selects "CountRoundsModel" ({ cls := "CountRoundsModel", name := "move", desc := "(IIII)I" } : MethodName) ({ cls := "CountRoundsModel", name := "move", desc := "(IIII)I" } : MethodName)) ∈ gw := gw_4 26 (by decide +kernel) rfl
theorem wd_747 : (Cond.code ({ cls := "CountRoundsModel", name := "move", desc := "(IIII)I" } : MethodName) prog_6_method_14_code 5 (Option.some FieldType.int)) ∈ gw := gw_4 27 rfl rfl
theorem wd_748 : (Cond.methodLink "CountRoundsLaw" 130 ({ cls := "CountRoundsModel", name := "end", desc := "(I)V" } : MethodName)) ∈ gw := gw_4 28 (by decide +kernel) rfl
theorem wd_749 : (Cond.instanceMethod ({ cls := "CountRoundsModel", name := "end", desc := "(I)V" } : MethodName)) ∈ gw := gw_4 29 (by decide +kernel) rfl
theorem wd_750 : (Cond.selects "CountRoundsModel" ({ cls := "CountRoundsModel", name := "end", desc := "(I)V" } : MethodName) ({ cls := "CountRoundsModel", name := "end", desc := "(I)V" } : MethodName)) ∈ gw := gw_4 30 (by decide +kernel) rfl
theorem wd_751 : (Cond.code ({ cls := "CountRoundsModel", name := "end", desc := "(I)V" } : MethodName) prog_6_method_15_code 3 (Option.none : Option FieldType)) ∈ gw := gw_4 31 rfl rfl
theorem wd_752 : (Cond.methodLink "CountRoundsLaw" 133 ({ cls := "CountRoundsModel", name := "moves", desc := "(I)I" } : MethodName)) ∈ gw := gw_4 32 (by decide +kernel) rfl
theorem wd_753 : (Cond.instanceMethod ({ cls := "CountRoundsModel", name := "moves", desc := "(I)I" } : MethodName)) ∈ gw := gw_4 33 (by decide +kernel) rfl
theorem wd_754 : (Cond.selects "CountRoundsModel" ({ cls := "CountRoundsModel", name := "moves", desc := "(I)I" } : MethodName) ({ cls := "CountRoundsModel", name := "moves", desc := "(I)I" } : MethodName)) ∈ gw := gw_4 34 (by decide +kernel) rfl
theorem wd_755 : (Cond.code ({ cls := "CountRoundsModel", name := "moves", desc := "(I)I" } : MethodName) prog_6_method_17_code 2 (Option.some FieldType.int)) ∈ gw := gw_4 35 rfl rfl
theorem wd_756 : (Cond.methodLink "CountRoundsModel" 108 ({ cls := "CountRoundsModel", name := "openAt", desc := "(I)I" } : MethodName)) ∈ gw := gw_4 36 (by decide +kernel) rfl
theorem wd_758 : (Cond.instanceMethod ({ cls := "CountRoundsModel", name := "openAt", desc := "(I)I" } : MethodName)) ∈ gw := gw_4 38 (by decide +kernel) rfl
theorem wd_759 : (Cond.code ({ cls := "CountRoundsModel", name := "openAt", desc := "(I)I" } : MethodName) prog_6_method_16_code 4 (Option.some FieldType.int)) ∈ gw := gw_4 39 rfl rfl
theorem wd_760 : (Cond.methodLink "CountRoundsLaw" 139 ({ cls := "CountRoundsModel", name := "round", desc := "(IIJ)I" } : MethodName)) ∈ gw := gw_4 40 (by decide +kernel) rfl
theorem wd_761 : (Cond.instanceMethod ({ cls := "CountRoundsModel", name := "round", desc := "(IIJ)I" } : MethodName)) ∈ gw := gw_4 41 (by decide +kernel) rfl
theorem wd_762 : (Cond.selects "CountRoundsModel" ({ cls := "CountRoundsModel", name := "round", desc := "(IIJ)I" } : MethodName) ({ cls := "CountRoundsModel", name := "round", desc := "(IIJ)I" } : MethodName)) ∈ gw := gw_4 42 (by decide +kernel) rfl
theorem wd_763 : (Cond.code ({ cls := "CountRoundsModel", name := "round", desc := "(IIJ)I" } : MethodName) prog_6_method_21_code 10 (Option.some FieldType.int)) ∈ gw := gw_4 43 rfl rfl
theorem wd_764 : (Cond.methodLink "CountRoundsModel" 112 ({ cls := "CountRoundsModel", name := "isBusy", desc := "(I)Z" } : MethodName)) ∈ gw := gw_4 44 (by decide +kernel) rfl
theorem wd_766 : (Cond.instanceMethod ({ cls := "CountRoundsModel", name := "isBusy", desc := "(I)Z" } : MethodName)) ∈ gw := gw_4 46 (by decide +kernel) rfl
theorem wd_767 : (Cond.code ({ cls := "CountRoundsModel", name := "isBusy", desc := "(I)Z" } : MethodName) prog_6_method_18_code 4 (Option.some FieldType.boolean)) ∈ gw := gw_4 47 rfl rfl
theorem wd_768 : (Cond.constantLong "CountRoundsModel" 115 (6364136223846793005 : Int64)) ∈ gw := gw_4 48 (by decide +kernel) rfl
theorem wd_769 : (Cond.constantLong "CountRoundsModel" 117 (1442695040888963407 : Int64)) ∈ gw := gw_4 49 (by decide +kernel) rfl
theorem wd_770 : (Cond.methodLink "CountRoundsModel" 119 ({ cls := "CountRoundsModel", name := "byRank", desc := "()I" } : MethodName)) ∈ gw := gw_4 50 (by decide +kernel) rfl
theorem wd_772 : (Cond.instanceMethod ({ cls := "CountRoundsModel", name := "byRank", desc := "()I" } : MethodName)) ∈ gw := gw_4 52 (by decide +kernel) rfl
theorem wd_773 : (Cond.code ({ cls := "CountRoundsModel", name := "byRank", desc := "()I" } : MethodName) prog_6_method_19_code 3 (Option.some FieldType.int)) ∈ gw := gw_4 53 rfl rfl
theorem wd_774 : (Cond.methodLink "CountRoundsModel" 123 ({ cls := "CountRoundsModel", name := "byNumber", desc := "(I)I" } : MethodName)) ∈ gw := gw_4 54 (by decide +kernel) rfl
theorem wd_776 : (Cond.instanceMethod ({ cls := "CountRoundsModel", name := "byNumber", desc := "(I)I" } : MethodName)) ∈ gw := gw_4 56 (by decide +kernel) rfl
theorem wd_777 : (Cond.code ({ cls := "CountRoundsModel", name := "byNumber", desc := "(I)I" } : MethodName) prog_6_method_20_code 4 (Option.some FieldType.int)) ∈ gw := gw_4 57 rfl rfl
theorem wd_778 : (Cond.methodLink "CountRoundsLaw" 142 ({ cls := "CountRoundsModel", name := "freeze", desc := "(I)I" } : MethodName)) ∈ gw := gw_4 58 (by decide +kernel) rfl
theorem wd_779 : (Cond.instanceMethod ({ cls := "CountRoundsModel", name := "freeze", desc := "(I)I" } : MethodName)) ∈ gw := gw_4 59 (by decide +kernel) rfl
theorem wd_780 : (Cond.selects "CountRoundsModel" ({ cls := "CountRoundsModel", name := "freeze", desc := "(I)I" } : MethodName) ({ cls := "CountRoundsModel", name := "freeze", desc := "(I)I" } : MethodName)) ∈ gw := gw_4 60 (by decide +kernel) rfl
theorem wd_781 : (Cond.code ({ cls := "CountRoundsModel", name := "freeze", desc := "(I)I" } : MethodName) prog_6_method_23_code 6 (Option.some FieldType.int)) ∈ gw := gw_4 61 rfl rfl
theorem wd_782 : (Cond.methodLink "CountRoundsModel" 126 ({ cls := "CountRoundsModel", name := "isCount", desc := "(I)Z" } : MethodName)) ∈ gw := gw_4 62 (by decide +kernel) rfl
theorem wd_784 : (Cond.instanceMethod ({ cls := "CountRoundsModel", name := "isCount", desc := "(I)Z" } : MethodName)) ∈ gw := gw_4 64 (by decide +kernel) rfl
theorem wd_785 : (Cond.code ({ cls := "CountRoundsModel", name := "isCount", desc := "(I)Z" } : MethodName) prog_6_method_7_code 2 (Option.some FieldType.boolean)) ∈ gw := gw_4 65 rfl rfl
theorem wd_786 : (Cond.methodLink "CountRoundsModel" 129 ({ cls := "CountRoundsModel", name := "coming", desc := "(II)I" } : MethodName)) ∈ gw := gw_4 66 (by decide +kernel) rfl
theorem wd_788 : (Cond.instanceMethod ({ cls := "CountRoundsModel", name := "coming", desc := "(II)I" } : MethodName)) ∈ gw := gw_4 68 (by decide +kernel) rfl
theorem wd_789 : (Cond.code ({ cls := "CountRoundsModel", name := "coming", desc := "(II)I" } : MethodName) prog_6_method_22_code 5 (Option.some FieldType.int)) ∈ gw := gw_4 69 rfl rfl
theorem wd_790 : (Cond.methodLink "CountRoundsLaw" 146 ({ cls := "CountRoundsModel", name := "found", desc := "(IIIII)I" } : MethodName)) ∈ gw := gw_4 70 (by decide +kernel) rfl
theorem wd_791 : (Cond.instanceMethod ({ cls := "CountRoundsModel", name := "found", desc := "(IIIII)I" } : MethodName)) ∈ gw := gw_4 71 (by decide +kernel) rfl
theorem wd_792 : (Cond.selects "CountRoundsModel" ({ cls := "CountRoundsModel", name := "found", desc := "(IIIII)I" } : MethodName) ({ cls := "CountRoundsModel", name := "found", desc := "(IIIII)I" } : MethodName)) ∈ gw := gw_4 72 (by decide +kernel) rfl
theorem wd_793 : (Cond.code ({ cls := "CountRoundsModel", name := "found", desc := "(IIIII)I" } : MethodName) prog_6_method_25_code 8 (Option.some FieldType.int)) ∈ gw := gw_4 73 rfl rfl
theorem wd_794 : (Cond.methodLink "CountRoundsModel" 133 ({ cls := "CountRoundsModel", name := "slot", desc := "(II)I" } : MethodName)) ∈ gw := gw_4 74 (by decide +kernel) rfl
theorem wd_796 : (Cond.instanceMethod ({ cls := "CountRoundsModel", name := "slot", desc := "(II)I" } : MethodName)) ∈ gw := gw_4 76 (by decide +kernel) rfl
theorem wd_797 : (Cond.code ({ cls := "CountRoundsModel", name := "slot", desc := "(II)I" } : MethodName) prog_6_method_24_code 4 (Option.some FieldType.int)) ∈ gw := gw_4 77 rfl rfl
theorem wd_798 : (Cond.methodLink "CountRoundsModel" 136 ({ cls := "CountRoundsModel", name := "firstBy", desc := "(I)I" } : MethodName)) ∈ gw := gw_4 78 (by decide +kernel) rfl
theorem wd_800 : (Cond.instanceMethod ({ cls := "CountRoundsModel", name := "firstBy", desc := "(I)I" } : MethodName)) ∈ gw := gw_4 80 (by decide +kernel) rfl
theorem wd_801 : (Cond.code ({ cls := "CountRoundsModel", name := "firstBy", desc := "(I)I" } : MethodName) prog_6_method_26_code 2 (Option.some FieldType.int)) ∈ gw := gw_4 81 rfl rfl
theorem wd_802 : (Cond.methodLink "CountRoundsModel" 139 ({ cls := "CountRoundsModel", name := "secondBy", desc := "(I)I" } : MethodName)) ∈ gw := gw_4 82 (by decide +kernel) rfl
theorem wd_804 : (Cond.instanceMethod ({ cls := "CountRoundsModel", name := "secondBy", desc := "(I)I" } : MethodName)) ∈ gw := gw_4 84 (by decide +kernel) rfl
theorem wd_805 : (Cond.code ({ cls := "CountRoundsModel", name := "secondBy", desc := "(I)I" } : MethodName) prog_6_method_27_code 2 (Option.some FieldType.int)) ∈ gw := gw_4 85 rfl rfl
theorem wd_806 : (Cond.methodLink "CountRoundsLaw" 150 ({ cls := "CountRoundsModel", name := "second", desc := "(III)Z" } : MethodName)) ∈ gw := gw_4 86 (by decide +kernel) rfl
theorem wd_807 : (Cond.instanceMethod ({ cls := "CountRoundsModel", name := "second", desc := "(III)Z" } : MethodName)) ∈ gw := gw_4 87 (by decide +kernel) rfl
theorem wd_808 : (Cond.selects "CountRoundsModel" ({ cls := "CountRoundsModel", name := "second", desc := "(III)Z" } : MethodName) ({ cls := "CountRoundsModel", name := "second", desc := "(III)Z" } : MethodName)) ∈ gw := gw_4 88 (by decide +kernel) rfl
theorem wd_809 : (Cond.code ({ cls := "CountRoundsModel", name := "second", desc := "(III)Z" } : MethodName) prog_6_method_29_code 6 (Option.some FieldType.boolean)) ∈ gw := gw_4 89 rfl rfl
theorem wd_810 : (Cond.methodLink "CountRoundsModel" 142 ({ cls := "CountRoundsModel", name := "far", desc := "(II)I" } : MethodName)) ∈ gw := gw_4 90 (by decide +kernel) rfl
theorem wd_811 : (Cond.static ({ cls := "CountRoundsModel", name := "far", desc := "(II)I" } : MethodName)) ∈ gw := gw_4 91 (by decide +kernel) rfl
theorem wd_812 : (Cond.code ({ cls := "CountRoundsModel", name := "far", desc := "(II)I" } : MethodName) prog_6_method_28_code 2 (Option.some FieldType.int)) ∈ gw := gw_4 92 rfl rfl
theorem wd_813 : (Cond.methodLink "CountRoundsLaw" 153 ({ cls := "CountRoundsModel", name := "close", desc := "(I)I" } : MethodName)) ∈ gw := gw_4 93 (by decide +kernel) rfl
theorem wd_814 : (Cond.instanceMethod ({ cls := "CountRoundsModel", name := "close", desc := "(I)I" } : MethodName)) ∈ gw := gw_4 94 (by decide +kernel) rfl
theorem wd_815 : (Cond.selects "CountRoundsModel" ({ cls := "CountRoundsModel", name := "close", desc := "(I)I" } : MethodName) ({ cls := "CountRoundsModel", name := "close", desc := "(I)I" } : MethodName)) ∈ gw := gw_4 95 (by decide +kernel) rfl
theorem wd_816 : (Cond.code ({ cls := "CountRoundsModel", name := "close", desc := "(I)I" } : MethodName) prog_6_method_30_code 3 (Option.some FieldType.int)) ∈ gw := gw_4 96 rfl rfl
theorem wd_817 : (Cond.methodLink "CountRoundsModel" 145 ({ cls := "CountRoundsModel", name := "closePlace", desc := "(II)V" } : MethodName)) ∈ gw := gw_4 97 (by decide +kernel) rfl
theorem wd_819 : (Cond.instanceMethod ({ cls := "CountRoundsModel", name := "closePlace", desc := "(II)V" } : MethodName)) ∈ gw := gw_4 99 (by decide +kernel) rfl
theorem wd_820 : (Cond.code ({ cls := "CountRoundsModel", name := "closePlace", desc := "(II)V" } : MethodName) prog_6_method_33_code 7 (Option.none : Option FieldType)) ∈ gw := gw_4 100 rfl rfl
theorem wd_821 : (Cond.methodLink "CountRoundsModel" 152 ({ cls := "CountRoundsModel", name := "isTold", desc := "(II)Z" } : MethodName)) ∈ gw := gw_4 101 (by decide +kernel) rfl
theorem wd_823 : (Cond.instanceMethod ({ cls := "CountRoundsModel", name := "isTold", desc := "(II)Z" } : MethodName)) ∈ gw := gw_4 103 (by decide +kernel) rfl
theorem wd_824 : (Cond.code ({ cls := "CountRoundsModel", name := "isTold", desc := "(II)Z" } : MethodName) prog_6_method_32_code 5 (Option.some FieldType.boolean)) ∈ gw := gw_4 104 rfl rfl
theorem wd_825 : (Cond.methodLink "CountRoundsModel" 156 ({ cls := "CountRoundsModel", name := "counts", desc := "(I)I" } : MethodName)) ∈ gw := gw_4 105 (by decide +kernel) rfl
theorem wd_827 : (Cond.instanceMethod ({ cls := "CountRoundsModel", name := "counts", desc := "(I)I" } : MethodName)) ∈ gw := gw_4 107 (by decide +kernel) rfl
theorem wd_828 : (Cond.code ({ cls := "CountRoundsModel", name := "counts", desc := "(I)I" } : MethodName) prog_6_method_31_code 2 (Option.some FieldType.int)) ∈ gw := gw_4 108 rfl rfl
theorem wd_829 : (Cond.methodLink "CountRoundsModel" 149 ({ cls := "CountRoundsModel", name := "difference", desc := "(II)I" } : MethodName)) ∈ gw := gw_4 109 (by decide +kernel) rfl
theorem wd_831 : (Cond.instanceMethod ({ cls := "CountRoundsModel", name := "difference", desc := "(II)I" } : MethodName)) ∈ gw := gw_4 111 (by decide +kernel) rfl
theorem wd_832 : (Cond.code ({ cls := "CountRoundsModel", name := "difference", desc := "(II)I" } : MethodName) prog_6_method_34_code 7 (Option.some FieldType.int)) ∈ gw := gw_4 112 rfl rfl
theorem wd_833 : (Cond.methodLink "CountRoundsLaw" 156 ({ cls := "CountRoundsModel", name := "differ", desc := "(III)I" } : MethodName)) ∈ gw := gw_4 113 (by decide +kernel) rfl
theorem wd_834 : (Cond.instanceMethod ({ cls := "CountRoundsModel", name := "differ", desc := "(III)I" } : MethodName)) ∈ gw := gw_4 114 (by decide +kernel) rfl
theorem wd_835 : (Cond.selects "CountRoundsModel" ({ cls := "CountRoundsModel", name := "differ", desc := "(III)I" } : MethodName) ({ cls := "CountRoundsModel", name := "differ", desc := "(III)I" } : MethodName)) ∈ gw := gw_4 115 (by decide +kernel) rfl
theorem wd_836 : (Cond.code ({ cls := "CountRoundsModel", name := "differ", desc := "(III)I" } : MethodName) prog_6_method_36_code 5 (Option.some FieldType.int)) ∈ gw := gw_4 116 rfl rfl
theorem wd_837 : (Cond.methodLink "CountRoundsModel" 164 ({ cls := "CountRoundsModel", name := "bookedAt", desc := "(I)I" } : MethodName)) ∈ gw := gw_4 117 (by decide +kernel) rfl
theorem wd_839 : (Cond.instanceMethod ({ cls := "CountRoundsModel", name := "bookedAt", desc := "(I)I" } : MethodName)) ∈ gw := gw_4 119 (by decide +kernel) rfl
theorem wd_840 : (Cond.code ({ cls := "CountRoundsModel", name := "bookedAt", desc := "(I)I" } : MethodName) prog_6_method_35_code 2 (Option.some FieldType.int)) ∈ gw := gw_4 120 rfl rfl
theorem wd_841 : (Cond.methodLink "CountRoundsLaw" 159 ({ cls := "CountRoundsModel", name := "correct", desc := "(III)Z" } : MethodName)) ∈ gw := gw_4 121 (by decide +kernel) rfl
theorem wd_842 : (Cond.instanceMethod ({ cls := "CountRoundsModel", name := "correct", desc := "(III)Z" } : MethodName)) ∈ gw := gw_4 122 (by decide +kernel) rfl
theorem wd_843 : (Cond.selects "CountRoundsModel" ({ cls := "CountRoundsModel", name := "correct", desc := "(III)Z" } : MethodName) ({ cls := "CountRoundsModel", name := "correct", desc := "(III)Z" } : MethodName)) ∈ gw := gw_4 123 (by decide +kernel) rfl
theorem wd_844 : (Cond.code ({ cls := "CountRoundsModel", name := "correct", desc := "(III)Z" } : MethodName) prog_6_method_37_code 8 (Option.some FieldType.boolean)) ∈ gw := gw_4 124 rfl rfl
theorem wd_845 : (Cond.methodLink "CountRoundsLaw" 162 ({ cls := "CountRoundsModel", name := "share", desc := "(I)I" } : MethodName)) ∈ gw := gw_4 125 (by decide +kernel) rfl
theorem wd_846 : (Cond.instanceMethod ({ cls := "CountRoundsModel", name := "share", desc := "(I)I" } : MethodName)) ∈ gw := gw_4 126 (by decide +kernel) rfl
theorem wd_847 : (Cond.selects "CountRoundsModel" ({ cls := "CountRoundsModel", name := "share", desc := "(I)I" } : MethodName) ({ cls := "CountRoundsModel", name := "share", desc := "(I)I" } : MethodName)) ∈ gw := gw_4 127 (by decide +kernel) rfl
theorem wd_848 : (Cond.code ({ cls := "CountRoundsModel", name := "share", desc := "(I)I" } : MethodName) prog_6_method_39_code 3 (Option.some FieldType.int)) ∈ gw := gw_4 128 rfl rfl
theorem wd_849 : (Cond.methodLink "CountRoundsModel" 167 ({ cls := "CountRoundsModel", name := "divisor", desc := "(II)I" } : MethodName)) ∈ gw := gw_4 129 (by decide +kernel) rfl
theorem wd_850 : (Cond.static ({ cls := "CountRoundsModel", name := "divisor", desc := "(II)I" } : MethodName)) ∈ gw := gw_4 130 (by decide +kernel) rfl
theorem wd_851 : (Cond.code ({ cls := "CountRoundsModel", name := "divisor", desc := "(II)I" } : MethodName) prog_6_method_38_code 5 (Option.some FieldType.int)) ∈ gw := gw_4 131 rfl rfl
theorem wd_852 : (Cond.methodLink "CountRoundsLaw" 165 ({ cls := "CountRoundsModel", name := "last", desc := "(I)I" } : MethodName)) ∈ gw := gw_4 132 (by decide +kernel) rfl
theorem wd_853 : (Cond.instanceMethod ({ cls := "CountRoundsModel", name := "last", desc := "(I)I" } : MethodName)) ∈ gw := gw_4 133 (by decide +kernel) rfl
theorem wd_854 : (Cond.selects "CountRoundsModel" ({ cls := "CountRoundsModel", name := "last", desc := "(I)I" } : MethodName) ({ cls := "CountRoundsModel", name := "last", desc := "(I)I" } : MethodName)) ∈ gw := gw_4 134 (by decide +kernel) rfl
theorem wd_855 : (Cond.code ({ cls := "CountRoundsModel", name := "last", desc := "(I)I" } : MethodName) prog_6_method_40_code 2 (Option.some FieldType.int)) ∈ gw := gw_4 135 rfl rfl
theorem wd_856 : (Cond.methodLink "CountRoundsLaw" 168 ({ cls := "CountRoundsModel", name := "due", desc := "(I)I" } : MethodName)) ∈ gw := gw_4 136 (by decide +kernel) rfl
theorem wd_857 : (Cond.instanceMethod ({ cls := "CountRoundsModel", name := "due", desc := "(I)I" } : MethodName)) ∈ gw := gw_4 137 (by decide +kernel) rfl
theorem wd_858 : (Cond.selects "CountRoundsModel" ({ cls := "CountRoundsModel", name := "due", desc := "(I)I" } : MethodName) ({ cls := "CountRoundsModel", name := "due", desc := "(I)I" } : MethodName)) ∈ gw := gw_4 138 (by decide +kernel) rfl
theorem wd_859 : (Cond.code ({ cls := "CountRoundsModel", name := "due", desc := "(I)I" } : MethodName) prog_6_method_41_code 4 (Option.some FieldType.int)) ∈ gw := gw_4 139 rfl rfl
theorem wd_860 : (Cond.methodLink "CountRoundsLaw" 172 ({ cls := "CountRoundsModel", name := "booked", desc := "(II)I" } : MethodName)) ∈ gw := gw_4 140 (by decide +kernel) rfl
theorem wd_861 : (Cond.instanceMethod ({ cls := "CountRoundsModel", name := "booked", desc := "(II)I" } : MethodName)) ∈ gw := gw_4 141 (by decide +kernel) rfl
theorem wd_862 : (Cond.selects "CountRoundsModel" ({ cls := "CountRoundsModel", name := "booked", desc := "(II)I" } : MethodName) ({ cls := "CountRoundsModel", name := "booked", desc := "(II)I" } : MethodName)) ∈ gw := gw_4 142 (by decide +kernel) rfl
theorem wd_863 : (Cond.code ({ cls := "CountRoundsModel", name := "booked", desc := "(II)I" } : MethodName) prog_6_method_42_code 3 (Option.some FieldType.int)) ∈ gw := gw_4 143 rfl rfl
theorem wd_864 : (Cond.methodLink "CountRoundsLaw" 175 ({ cls := "CountRoundsModel", name := "told", desc := "(II)I" } : MethodName)) ∈ gw := gw_4 144 (by decide +kernel) rfl
theorem wd_865 : (Cond.instanceMethod ({ cls := "CountRoundsModel", name := "told", desc := "(II)I" } : MethodName)) ∈ gw := gw_4 145 (by decide +kernel) rfl
theorem wd_866 : (Cond.selects "CountRoundsModel" ({ cls := "CountRoundsModel", name := "told", desc := "(II)I" } : MethodName) ({ cls := "CountRoundsModel", name := "told", desc := "(II)I" } : MethodName)) ∈ gw := gw_4 146 (by decide +kernel) rfl
theorem wd_867 : (Cond.code ({ cls := "CountRoundsModel", name := "told", desc := "(II)I" } : MethodName) prog_6_method_43_code 3 (Option.some FieldType.int)) ∈ gw := gw_4 147 rfl rfl
theorem wd_868 : (Cond.methodLink "CountRoundsLaw" 179 ({ cls := "CountRoundsModel", name := "count", desc := "(I)I" } : MethodName)) ∈ gw := gw_4 148 (by decide +kernel) rfl
theorem wd_869 : (Cond.instanceMethod ({ cls := "CountRoundsModel", name := "count", desc := "(I)I" } : MethodName)) ∈ gw := gw_4 149 (by decide +kernel) rfl
theorem wd_870 : (Cond.selects "CountRoundsModel" ({ cls := "CountRoundsModel", name := "count", desc := "(I)I" } : MethodName) ({ cls := "CountRoundsModel", name := "count", desc := "(I)I" } : MethodName)) ∈ gw := gw_4 150 (by decide +kernel) rfl
theorem wd_871 : (Cond.code ({ cls := "CountRoundsModel", name := "count", desc := "(I)I" } : MethodName) prog_6_method_44_code 4 (Option.some FieldType.int)) ∈ gw := gw_4 151 rfl rfl
theorem wd_872 : (Cond.constantLong "CountRoundsLaw" 134 (4294967295 : Int64)) ∈ gw := gw_4 152 (by decide +kernel) rfl
theorem wd_873 : (Cond.arrayClass FieldType.long) ∈ gw := gw_4 153 (by decide +kernel) rfl
theorem wd_874 : (Cond.sameMethod "java/lang/Throwable" "java/lang/Throwable" "fillInStackTrace" "(I)Ljava/lang/Throwable;") ∈ gw := gw_4 154 (by decide +kernel) rfl
