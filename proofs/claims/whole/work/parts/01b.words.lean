def kAL : List Cond := lw_tbl.filter goodWord
def kSP : Cond → Bool := fun w => match w with | .methodLinkNest .. => true | .declares _ => true | .castable .. => true | _ => false
def kBL : List Cond := lw_tbl.filter kSP
theorem kAL_tbl : ∀ w ∈ kAL, w ∈ lw_tbl := fun _ h => (List.mem_filter.mp h).1
theorem kAL_good : ∀ w ∈ kAL, (w.onTables && w.keeps) = true ∨ ∃ ty, w = .arrayClass ty := fun _ h => good_of_word (List.mem_filter.mp h).2
theorem kgood (ws : List Cond) (h : ∀ w ∈ ws, w ∈ kAL) : GoodIn kAL ws := fun w hw => ⟨h w hw, kAL_good w (h w hw)⟩
theorem kin_t1 : ∀ w ∈ tables_1_1, w ∈ lw_tbl := fun _ h => List.mem_append_right _ (List.mem_append_left _ h)
theorem kin_t2 : ∀ w ∈ tables_1_2, w ∈ lw_tbl := fun _ h => List.mem_append_right _ (List.mem_append_right _ (List.mem_append_left _ h))
theorem kin_t3 : ∀ w ∈ tables_1_3, w ∈ lw_tbl := fun _ h => List.mem_append_right _ (List.mem_append_right _ (List.mem_append_right _ (List.mem_append_left _ h)))
theorem kin_t4 : ∀ w ∈ tables_1_4, w ∈ lw_tbl := fun _ h => List.mem_append_right _ (List.mem_append_right _ (List.mem_append_right _ (List.mem_append_right _ (List.mem_append_left _ h))))
theorem kin_t5 : ∀ w ∈ tables_1_5, w ∈ lw_tbl := fun _ h => List.mem_append_right _ (List.mem_append_right _ (List.mem_append_right _ (List.mem_append_right _ (List.mem_append_right _ h))))
theorem kq_1_0 : Cond.initialized "ParserparkLaw" ∈ kAL := List.mem_filter.mpr ⟨kin_t1 _ (List.mem_of_getElem? (i := 0) rfl), rfl⟩
theorem kq_1_1 : Cond.initialized "Parserpark" ∈ kAL := List.mem_filter.mpr ⟨kin_t1 _ (List.mem_of_getElem? (i := 1) rfl), rfl⟩
theorem kq_1_2 : Cond.initialized "Parserpark$Grammar" ∈ kAL := List.mem_filter.mpr ⟨kin_t1 _ (List.mem_of_getElem? (i := 2) rfl), rfl⟩
theorem kq_1_3 : Cond.initialized "Parserpark$Spans" ∈ kAL := List.mem_filter.mpr ⟨kin_t1 _ (List.mem_of_getElem? (i := 3) rfl), rfl⟩
theorem kq_1_4 : Cond.initialized "Parserpark$Layout" ∈ kAL := List.mem_filter.mpr ⟨kin_t1 _ (List.mem_of_getElem? (i := 4) rfl), rfl⟩
theorem kq_1_5 : Cond.initialized "Parserpark$Trial" ∈ kAL := List.mem_filter.mpr ⟨kin_t1 _ (List.mem_of_getElem? (i := 5) rfl), rfl⟩
theorem kq_1_6 : Cond.initialized "ParserparkModel" ∈ kAL := List.mem_filter.mpr ⟨kin_t1 _ (List.mem_of_getElem? (i := 6) rfl), rfl⟩
theorem kq_1_7 : Cond.initialized "java/lang/Throwable" ∈ kAL := List.mem_filter.mpr ⟨kin_t1 _ (List.mem_of_getElem? (i := 7) rfl), rfl⟩
theorem kq_1_8 : Cond.initialized "java/lang/Exception" ∈ kAL := List.mem_filter.mpr ⟨kin_t1 _ (List.mem_of_getElem? (i := 8) rfl), rfl⟩
theorem kq_1_9 : Cond.initialized "java/lang/RuntimeException" ∈ kAL := List.mem_filter.mpr ⟨kin_t1 _ (List.mem_of_getElem? (i := 9) rfl), rfl⟩
theorem kq_1_10 : Cond.initialized "java/lang/IllegalArgumentException" ∈ kAL := List.mem_filter.mpr ⟨kin_t1 _ (List.mem_of_getElem? (i := 10) rfl), rfl⟩
theorem kq_1_11 : Cond.initialized "java/lang/IllegalStateException" ∈ kAL := List.mem_filter.mpr ⟨kin_t1 _ (List.mem_of_getElem? (i := 11) rfl), rfl⟩
theorem kq_1_12 : Cond.initialized "Parserpark$Rule" ∈ kAL := List.mem_filter.mpr ⟨kin_t1 _ (List.mem_of_getElem? (i := 12) rfl), rfl⟩
theorem kq_1_13 : Cond.initialized "java/util/NoSuchElementException" ∈ kAL := List.mem_filter.mpr ⟨kin_t1 _ (List.mem_of_getElem? (i := 13) rfl), rfl⟩
theorem kq_1_14 : Cond.initialized "Parserpark$Text" ∈ kAL := List.mem_filter.mpr ⟨kin_t1 _ (List.mem_of_getElem? (i := 14) rfl), rfl⟩
theorem kq_1_15 : Cond.initialized "java/lang/Math" ∈ kAL := List.mem_filter.mpr ⟨kin_t1 _ (List.mem_of_getElem? (i := 15) rfl), rfl⟩
theorem kq_1_16 : Cond.initialized "java/lang/IndexOutOfBoundsException" ∈ kAL := List.mem_filter.mpr ⟨kin_t1 _ (List.mem_of_getElem? (i := 16) rfl), rfl⟩
theorem kq_1_17 : Cond.initialized "java/lang/ArrayIndexOutOfBoundsException" ∈ kAL := List.mem_filter.mpr ⟨kin_t1 _ (List.mem_of_getElem? (i := 17) rfl), rfl⟩
theorem kq_1_18 : Cond.initialized "java/lang/String" ∈ kAL := List.mem_filter.mpr ⟨kin_t1 _ (List.mem_of_getElem? (i := 18) rfl), rfl⟩
theorem kq_1_19 : Cond.initialized "java/lang/UnsupportedOperationException" ∈ kAL := List.mem_filter.mpr ⟨kin_t1 _ (List.mem_of_getElem? (i := 19) rfl), rfl⟩
theorem kq_1_20 : Cond.initialized "java/util/Arrays" ∈ kAL := List.mem_filter.mpr ⟨kin_t1 _ (List.mem_of_getElem? (i := 20) rfl), rfl⟩
theorem kq_1_21 : Cond.initialized "java/lang/ArithmeticException" ∈ kAL := List.mem_filter.mpr ⟨kin_t1 _ (List.mem_of_getElem? (i := 21) rfl), rfl⟩
theorem kq_1_22 : Cond.classLink "ParserparkLaw" 8 "Parserpark" ∈ kAL := List.mem_filter.mpr ⟨kin_t1 _ (List.mem_of_getElem? (i := 22) rfl), rfl⟩
theorem kq_1_23 : Cond.instantiable "Parserpark" 8 ∈ kAL := List.mem_filter.mpr ⟨kin_t1 _ (List.mem_of_getElem? (i := 23) rfl), rfl⟩
theorem kq_1_24 : Cond.methodLink "ParserparkLaw" 105 yX6_init ∈ kAL := List.mem_filter.mpr ⟨kin_t1 _ (List.mem_of_getElem? (i := 24) rfl), rfl⟩
theorem kq_1_25 : Cond.instanceMethod yX6_init ∈ kAL := List.mem_filter.mpr ⟨kin_t1 _ (List.mem_of_getElem? (i := 25) rfl), rfl⟩
theorem kq_1_26 : Cond.code yX6_init prog_1_method_1_code 1 none ∈ kAL := List.mem_filter.mpr ⟨kin_t1 _ (List.mem_of_getElem? (i := 26) rfl), rfl⟩
theorem kq_1_27 : Cond.methodLink "Parserpark" 3 (⟨"java/lang/Object", "<init>", "()V"⟩ : MethodName) ∈ kAL := List.mem_filter.mpr ⟨kin_t1 _ (List.mem_of_getElem? (i := 27) rfl), rfl⟩
theorem kq_1_28 : Cond.instanceMethod (⟨"java/lang/Object", "<init>", "()V"⟩ : MethodName) ∈ kAL := List.mem_filter.mpr ⟨kin_t1 _ (List.mem_of_getElem? (i := 28) rfl), rfl⟩
theorem kq_1_29 : Cond.code (⟨"java/lang/Object", "<init>", "()V"⟩ : MethodName) object_method_1_code 1 none ∈ kAL := List.mem_filter.mpr ⟨kin_t1 _ (List.mem_of_getElem? (i := 29) rfl), rfl⟩
theorem kq_1_30 : Cond.classLink "Parserpark" 9 "Parserpark$Grammar" ∈ kAL := List.mem_filter.mpr ⟨kin_t1 _ (List.mem_of_getElem? (i := 30) rfl), rfl⟩
theorem kq_1_31 : Cond.instantiable "Parserpark$Grammar" 2 ∈ kAL := List.mem_filter.mpr ⟨kin_t1 _ (List.mem_of_getElem? (i := 31) rfl), rfl⟩
theorem kq_1_32 : Cond.methodLinkNest "Parserpark" 11 yX0_init "Parserpark" ∈ kBL := List.mem_filter.mpr ⟨kin_t1 _ (List.mem_of_getElem? (i := 32) rfl), rfl⟩
theorem kq_1_33 : Cond.instanceMethod yX0_init ∈ kAL := List.mem_filter.mpr ⟨kin_t1 _ (List.mem_of_getElem? (i := 33) rfl), rfl⟩
theorem kq_1_34 : Cond.code yX0_init prog_2_method_1_code 1 none ∈ kAL := List.mem_filter.mpr ⟨kin_t1 _ (List.mem_of_getElem? (i := 34) rfl), rfl⟩
theorem kq_1_35 : Cond.methodLink "Parserpark$Grammar" 3 (⟨"java/lang/Object", "<init>", "()V"⟩ : MethodName) ∈ kAL := List.mem_filter.mpr ⟨kin_t1 _ (List.mem_of_getElem? (i := 35) rfl), rfl⟩
theorem kq_1_36 : Cond.classLink "Parserpark$Grammar" 9 "Parserpark$Rule" ∈ kAL := List.mem_filter.mpr ⟨kin_t1 _ (List.mem_of_getElem? (i := 36) rfl), rfl⟩
theorem kq_1_37 : Cond.arrayOver (.object "Parserpark$Rule") ∈ lw_tbl := kin_t1 _ (List.mem_of_getElem? (i := 37) rfl)
theorem kq_1_38 : Cond.fieldLink "Parserpark$Grammar" 11 "Parserpark$Grammar" "places" "[LParserpark$Rule;" ∈ kAL := List.mem_filter.mpr ⟨kin_t1 _ (List.mem_of_getElem? (i := 38) rfl), rfl⟩
theorem kq_1_39 : Cond.fieldLink "Parserpark$Grammar" 17 "Parserpark$Grammar" "added" "I" ∈ kAL := List.mem_filter.mpr ⟨kin_t1 _ (List.mem_of_getElem? (i := 39) rfl), rfl⟩
theorem kq_1_40 : Cond.fieldLink "Parserpark" 70 "Parserpark$Grammar" "added" "I" ∈ kAL := List.mem_filter.mpr ⟨kin_t1 _ (List.mem_of_getElem? (i := 40) rfl), rfl⟩
theorem kq_1_41 : Cond.fieldLink "Parserpark$Trial" 35 "Parserpark$Grammar" "added" "I" ∈ kAL := List.mem_filter.mpr ⟨kin_t1 _ (List.mem_of_getElem? (i := 41) rfl), rfl⟩
theorem kq_1_42 : Cond.fieldLink "Parserpark$Spans" 67 "Parserpark$Grammar" "added" "I" ∈ kAL := List.mem_filter.mpr ⟨kin_t1 _ (List.mem_of_getElem? (i := 42) rfl), rfl⟩
theorem kq_1_43 : Cond.laysFinal "Parserpark$Grammar" "Parserpark$Grammar" "places" "[LParserpark$Rule;" ∈ kAL := List.mem_filter.mpr ⟨kin_t1 _ (List.mem_of_getElem? (i := 43) rfl), rfl⟩
theorem kq_1_44 : Cond.soleField "Parserpark$Grammar" "places" ∈ lw_tbl := kin_t1 _ (List.mem_of_getElem? (i := 44) rfl)
theorem kq_1_45 : Cond.lays "Parserpark$Grammar" "Parserpark$Grammar" "added" "I" ∈ kAL := List.mem_filter.mpr ⟨kin_t1 _ (List.mem_of_getElem? (i := 45) rfl), rfl⟩
theorem kq_1_46 : Cond.soleField "Parserpark$Grammar" "added" ∈ lw_tbl := kin_t1 _ (List.mem_of_getElem? (i := 46) rfl)
theorem kq_1_47 : Cond.superclass "Parserpark$Grammar" "java/lang/Object" ∈ lw_tbl := kin_t1 _ (List.mem_of_getElem? (i := 47) rfl)
theorem kq_1_48 : Cond.classLink "Parserpark" 16 "Parserpark$Text" ∈ kAL := List.mem_filter.mpr ⟨kin_t1 _ (List.mem_of_getElem? (i := 48) rfl), rfl⟩
theorem kq_1_49 : Cond.arrayOver (.object "Parserpark$Text") ∈ lw_tbl := kin_t1 _ (List.mem_of_getElem? (i := 49) rfl)
theorem kq_1_50 : Cond.classLink "Parserpark" 22 "Parserpark$Spans" ∈ kAL := List.mem_filter.mpr ⟨kin_t1 _ (List.mem_of_getElem? (i := 50) rfl), rfl⟩
theorem kq_1_51 : Cond.instantiable "Parserpark$Spans" 3 ∈ kAL := List.mem_filter.mpr ⟨kin_t1 _ (List.mem_of_getElem? (i := 51) rfl), rfl⟩
theorem kq_1_52 : Cond.methodLinkNest "Parserpark" 24 yX3_init "Parserpark" ∈ kBL := List.mem_filter.mpr ⟨kin_t1 _ (List.mem_of_getElem? (i := 52) rfl), rfl⟩
theorem kq_1_53 : Cond.instanceMethod yX3_init ∈ kAL := List.mem_filter.mpr ⟨kin_t1 _ (List.mem_of_getElem? (i := 53) rfl), rfl⟩
theorem kq_1_54 : Cond.code yX3_init prog_5_method_1_code 1 none ∈ kAL := List.mem_filter.mpr ⟨kin_t1 _ (List.mem_of_getElem? (i := 54) rfl), rfl⟩
theorem kq_1_55 : Cond.methodLink "Parserpark$Spans" 3 (⟨"java/lang/Object", "<init>", "()V"⟩ : MethodName) ∈ kAL := List.mem_filter.mpr ⟨kin_t1 _ (List.mem_of_getElem? (i := 55) rfl), rfl⟩
theorem kq_1_56 : Cond.fieldLink "Parserpark$Spans" 9 "Parserpark$Spans" "letters" "[I" ∈ kAL := List.mem_filter.mpr ⟨kin_t1 _ (List.mem_of_getElem? (i := 56) rfl), rfl⟩
theorem kq_1_57 : Cond.fieldLink "Parserpark$Spans" 15 "Parserpark$Spans" "numbers" "[I" ∈ kAL := List.mem_filter.mpr ⟨kin_t1 _ (List.mem_of_getElem? (i := 57) rfl), rfl⟩
theorem kq_1_58 : Cond.fieldLink "Parserpark$Spans" 18 "Parserpark$Spans" "count" "I" ∈ kAL := List.mem_filter.mpr ⟨kin_t1 _ (List.mem_of_getElem? (i := 58) rfl), rfl⟩
theorem kq_1_59 : Cond.fieldLink "Parserpark$Trial" 21 "Parserpark$Spans" "count" "I" ∈ kAL := List.mem_filter.mpr ⟨kin_t1 _ (List.mem_of_getElem? (i := 59) rfl), rfl⟩
theorem kq_1_60 : Cond.fieldLink "Parserpark$Layout" 55 "Parserpark$Spans" "count" "I" ∈ kAL := List.mem_filter.mpr ⟨kin_t1 _ (List.mem_of_getElem? (i := 60) rfl), rfl⟩
theorem kq_1_61 : Cond.fieldLink "Parserpark" 131 "Parserpark$Spans" "count" "I" ∈ kAL := List.mem_filter.mpr ⟨kin_t1 _ (List.mem_of_getElem? (i := 61) rfl), rfl⟩
theorem kq_1_62 : Cond.laysFinal "Parserpark$Spans" "Parserpark$Spans" "letters" "[I" ∈ kAL := List.mem_filter.mpr ⟨kin_t1 _ (List.mem_of_getElem? (i := 62) rfl), rfl⟩
theorem kq_1_63 : Cond.soleField "Parserpark$Spans" "letters" ∈ lw_tbl := kin_t1 _ (List.mem_of_getElem? (i := 63) rfl)
theorem kq_1_64 : Cond.laysFinal "Parserpark$Spans" "Parserpark$Spans" "numbers" "[I" ∈ kAL := List.mem_filter.mpr ⟨kin_t1 _ (List.mem_of_getElem? (i := 64) rfl), rfl⟩
theorem kq_1_65 : Cond.soleField "Parserpark$Spans" "numbers" ∈ lw_tbl := kin_t1 _ (List.mem_of_getElem? (i := 65) rfl)
theorem kq_1_66 : Cond.lays "Parserpark$Spans" "Parserpark$Spans" "count" "I" ∈ kAL := List.mem_filter.mpr ⟨kin_t1 _ (List.mem_of_getElem? (i := 66) rfl), rfl⟩
theorem kq_1_67 : Cond.soleField "Parserpark$Spans" "count" ∈ lw_tbl := kin_t1 _ (List.mem_of_getElem? (i := 67) rfl)
theorem kq_1_68 : Cond.superclass "Parserpark$Spans" "java/lang/Object" ∈ lw_tbl := kin_t1 _ (List.mem_of_getElem? (i := 68) rfl)
theorem kq_1_69 : Cond.arrayClass .int ∈ kAL := List.mem_filter.mpr ⟨kin_t1 _ (List.mem_of_getElem? (i := 69) rfl), rfl⟩
theorem kq_1_70 : Cond.classLink "Parserpark" 29 "Parserpark$Layout" ∈ kAL := List.mem_filter.mpr ⟨kin_t1 _ (List.mem_of_getElem? (i := 70) rfl), rfl⟩
theorem kq_1_71 : Cond.instantiable "Parserpark$Layout" 11 ∈ kAL := List.mem_filter.mpr ⟨kin_t1 _ (List.mem_of_getElem? (i := 71) rfl), rfl⟩
theorem kq_1_72 : Cond.methodLinkNest "Parserpark" 31 yX1_init "Parserpark" ∈ kBL := List.mem_filter.mpr ⟨kin_t1 _ (List.mem_of_getElem? (i := 72) rfl), rfl⟩
theorem kq_1_73 : Cond.instanceMethod yX1_init ∈ kAL := List.mem_filter.mpr ⟨kin_t1 _ (List.mem_of_getElem? (i := 73) rfl), rfl⟩
theorem kq_1_74 : Cond.code yX1_init prog_3_method_1_code 1 none ∈ kAL := List.mem_filter.mpr ⟨kin_t1 _ (List.mem_of_getElem? (i := 74) rfl), rfl⟩
theorem kq_1_75 : Cond.methodLink "Parserpark$Layout" 3 (⟨"java/lang/Object", "<init>", "()V"⟩ : MethodName) ∈ kAL := List.mem_filter.mpr ⟨kin_t1 _ (List.mem_of_getElem? (i := 75) rfl), rfl⟩
theorem kq_1_76 : Cond.fieldLink "Parserpark$Layout" 9 "Parserpark$Layout" "ruleNumbers" "[I" ∈ kAL := List.mem_filter.mpr ⟨kin_t1 _ (List.mem_of_getElem? (i := 76) rfl), rfl⟩
theorem kq_1_77 : Cond.fieldLink "Parserpark$Layout" 15 "Parserpark$Layout" "colours" "[I" ∈ kAL := List.mem_filter.mpr ⟨kin_t1 _ (List.mem_of_getElem? (i := 77) rfl), rfl⟩
theorem kq_1_78 : Cond.fieldLink "Parserpark$Layout" 18 "Parserpark$Layout" "gaps" "[I" ∈ kAL := List.mem_filter.mpr ⟨kin_t1 _ (List.mem_of_getElem? (i := 78) rfl), rfl⟩
theorem kq_1_79 : Cond.fieldLink "Parserpark$Layout" 21 "Parserpark$Layout" "waitingSymbols" "[I" ∈ kAL := List.mem_filter.mpr ⟨kin_t1 _ (List.mem_of_getElem? (i := 79) rfl), rfl⟩
theorem kq_1_80 : Cond.fieldLink "Parserpark$Layout" 24 "Parserpark$Layout" "waitingFroms" "[I" ∈ kAL := List.mem_filter.mpr ⟨kin_t1 _ (List.mem_of_getElem? (i := 80) rfl), rfl⟩
theorem kq_1_81 : Cond.fieldLink "Parserpark$Layout" 27 "Parserpark$Layout" "waitingTos" "[I" ∈ kAL := List.mem_filter.mpr ⟨kin_t1 _ (List.mem_of_getElem? (i := 81) rfl), rfl⟩
theorem kq_1_82 : Cond.fieldLink "Parserpark$Layout" 30 "Parserpark$Layout" "waitingLevels" "[I" ∈ kAL := List.mem_filter.mpr ⟨kin_t1 _ (List.mem_of_getElem? (i := 82) rfl), rfl⟩
theorem kq_1_83 : Cond.fieldLink "Parserpark$Layout" 33 "Parserpark$Layout" "waiting" "I" ∈ kAL := List.mem_filter.mpr ⟨kin_t1 _ (List.mem_of_getElem? (i := 83) rfl), rfl⟩
theorem kq_1_84 : Cond.fieldLink "Parserpark$Layout" 37 "Parserpark$Layout" "ruleCount" "I" ∈ kAL := List.mem_filter.mpr ⟨kin_t1 _ (List.mem_of_getElem? (i := 84) rfl), rfl⟩
theorem kq_1_85 : Cond.fieldLink "Parserpark$Text" 26 "Parserpark$Layout" "ruleCount" "I" ∈ kAL := List.mem_filter.mpr ⟨kin_t1 _ (List.mem_of_getElem? (i := 85) rfl), rfl⟩
theorem kq_1_86 : Cond.fieldLink "Parserpark" 165 "Parserpark$Layout" "ruleCount" "I" ∈ kAL := List.mem_filter.mpr ⟨kin_t1 _ (List.mem_of_getElem? (i := 86) rfl), rfl⟩
theorem kq_1_87 : Cond.fieldLink "Parserpark$Layout" 40 "Parserpark$Layout" "deepest" "I" ∈ kAL := List.mem_filter.mpr ⟨kin_t1 _ (List.mem_of_getElem? (i := 87) rfl), rfl⟩
theorem kq_1_88 : Cond.fieldLink "Parserpark" 174 "Parserpark$Layout" "deepest" "I" ∈ kAL := List.mem_filter.mpr ⟨kin_t1 _ (List.mem_of_getElem? (i := 88) rfl), rfl⟩
theorem kq_1_89 : Cond.fieldLink "Parserpark$Layout" 43 "Parserpark$Layout" "letterCount" "I" ∈ kAL := List.mem_filter.mpr ⟨kin_t1 _ (List.mem_of_getElem? (i := 89) rfl), rfl⟩
theorem kq_1_90 : Cond.fieldLink "Parserpark" 257 "Parserpark$Layout" "letterCount" "I" ∈ kAL := List.mem_filter.mpr ⟨kin_t1 _ (List.mem_of_getElem? (i := 90) rfl), rfl⟩
theorem kq_1_91 : Cond.laysFinal "Parserpark$Layout" "Parserpark$Layout" "ruleNumbers" "[I" ∈ kAL := List.mem_filter.mpr ⟨kin_t1 _ (List.mem_of_getElem? (i := 91) rfl), rfl⟩
theorem kq_1_92 : Cond.soleField "Parserpark$Layout" "ruleNumbers" ∈ lw_tbl := kin_t1 _ (List.mem_of_getElem? (i := 92) rfl)
theorem kq_1_93 : Cond.laysFinal "Parserpark$Layout" "Parserpark$Layout" "colours" "[I" ∈ kAL := List.mem_filter.mpr ⟨kin_t1 _ (List.mem_of_getElem? (i := 93) rfl), rfl⟩
theorem kq_1_94 : Cond.soleField "Parserpark$Layout" "colours" ∈ lw_tbl := kin_t1 _ (List.mem_of_getElem? (i := 94) rfl)
theorem kq_1_95 : Cond.laysFinal "Parserpark$Layout" "Parserpark$Layout" "gaps" "[I" ∈ kAL := List.mem_filter.mpr ⟨kin_t1 _ (List.mem_of_getElem? (i := 95) rfl), rfl⟩
theorem kq_1_96 : Cond.soleField "Parserpark$Layout" "gaps" ∈ lw_tbl := kin_t1 _ (List.mem_of_getElem? (i := 96) rfl)
theorem kq_1_97 : Cond.laysFinal "Parserpark$Layout" "Parserpark$Layout" "waitingSymbols" "[I" ∈ kAL := List.mem_filter.mpr ⟨kin_t1 _ (List.mem_of_getElem? (i := 97) rfl), rfl⟩
theorem kq_1_98 : Cond.soleField "Parserpark$Layout" "waitingSymbols" ∈ lw_tbl := kin_t1 _ (List.mem_of_getElem? (i := 98) rfl)
theorem kq_1_99 : Cond.laysFinal "Parserpark$Layout" "Parserpark$Layout" "waitingFroms" "[I" ∈ kAL := List.mem_filter.mpr ⟨kin_t1 _ (List.mem_of_getElem? (i := 99) rfl), rfl⟩
theorem kq_1_100 : Cond.soleField "Parserpark$Layout" "waitingFroms" ∈ lw_tbl := kin_t1 _ (List.mem_of_getElem? (i := 100) rfl)
theorem kq_1_101 : Cond.laysFinal "Parserpark$Layout" "Parserpark$Layout" "waitingTos" "[I" ∈ kAL := List.mem_filter.mpr ⟨kin_t1 _ (List.mem_of_getElem? (i := 101) rfl), rfl⟩
theorem kq_1_102 : Cond.soleField "Parserpark$Layout" "waitingTos" ∈ lw_tbl := kin_t1 _ (List.mem_of_getElem? (i := 102) rfl)
theorem kq_1_103 : Cond.laysFinal "Parserpark$Layout" "Parserpark$Layout" "waitingLevels" "[I" ∈ kAL := List.mem_filter.mpr ⟨kin_t1 _ (List.mem_of_getElem? (i := 103) rfl), rfl⟩
theorem kq_1_104 : Cond.soleField "Parserpark$Layout" "waitingLevels" ∈ lw_tbl := kin_t1 _ (List.mem_of_getElem? (i := 104) rfl)
theorem kq_1_105 : Cond.lays "Parserpark$Layout" "Parserpark$Layout" "waiting" "I" ∈ kAL := List.mem_filter.mpr ⟨kin_t1 _ (List.mem_of_getElem? (i := 105) rfl), rfl⟩
theorem kq_1_106 : Cond.soleField "Parserpark$Layout" "waiting" ∈ lw_tbl := kin_t1 _ (List.mem_of_getElem? (i := 106) rfl)
theorem kq_1_107 : Cond.lays "Parserpark$Layout" "Parserpark$Layout" "ruleCount" "I" ∈ kAL := List.mem_filter.mpr ⟨kin_t1 _ (List.mem_of_getElem? (i := 107) rfl), rfl⟩
theorem kq_1_108 : Cond.soleField "Parserpark$Layout" "ruleCount" ∈ lw_tbl := kin_t1 _ (List.mem_of_getElem? (i := 108) rfl)
theorem kq_1_109 : Cond.lays "Parserpark$Layout" "Parserpark$Layout" "deepest" "I" ∈ kAL := List.mem_filter.mpr ⟨kin_t1 _ (List.mem_of_getElem? (i := 109) rfl), rfl⟩
theorem kq_1_110 : Cond.soleField "Parserpark$Layout" "deepest" ∈ lw_tbl := kin_t1 _ (List.mem_of_getElem? (i := 110) rfl)
theorem kq_1_111 : Cond.lays "Parserpark$Layout" "Parserpark$Layout" "letterCount" "I" ∈ kAL := List.mem_filter.mpr ⟨kin_t1 _ (List.mem_of_getElem? (i := 111) rfl), rfl⟩
theorem kq_1_112 : Cond.soleField "Parserpark$Layout" "letterCount" ∈ lw_tbl := kin_t1 _ (List.mem_of_getElem? (i := 112) rfl)
theorem kq_1_113 : Cond.superclass "Parserpark$Layout" "java/lang/Object" ∈ lw_tbl := kin_t1 _ (List.mem_of_getElem? (i := 113) rfl)
theorem kq_1_114 : Cond.classLink "Parserpark" 36 "Parserpark$Trial" ∈ kAL := List.mem_filter.mpr ⟨kin_t1 _ (List.mem_of_getElem? (i := 114) rfl), rfl⟩
theorem kq_1_115 : Cond.instantiable "Parserpark$Trial" 1 ∈ kAL := List.mem_filter.mpr ⟨kin_t1 _ (List.mem_of_getElem? (i := 115) rfl), rfl⟩
theorem kq_1_116 : Cond.methodLinkNest "Parserpark" 38 yX5_init "Parserpark" ∈ kBL := List.mem_filter.mpr ⟨kin_t1 _ (List.mem_of_getElem? (i := 116) rfl), rfl⟩
theorem kq_1_117 : Cond.instanceMethod yX5_init ∈ kAL := List.mem_filter.mpr ⟨kin_t1 _ (List.mem_of_getElem? (i := 117) rfl), rfl⟩
theorem kq_1_118 : Cond.code yX5_init prog_7_method_1_code 1 none ∈ kAL := List.mem_filter.mpr ⟨kin_t1 _ (List.mem_of_getElem? (i := 118) rfl), rfl⟩
theorem kq_1_119 : Cond.methodLink "Parserpark$Trial" 3 (⟨"java/lang/Object", "<init>", "()V"⟩ : MethodName) ∈ kAL := List.mem_filter.mpr ⟨kin_t1 _ (List.mem_of_getElem? (i := 119) rfl), rfl⟩
theorem kq_1_120 : Cond.fieldLink "Parserpark$Trial" 9 "Parserpark$Trial" "known" "[I" ∈ kAL := List.mem_filter.mpr ⟨kin_t1 _ (List.mem_of_getElem? (i := 120) rfl), rfl⟩
theorem kq_1_121 : Cond.laysFinal "Parserpark$Trial" "Parserpark$Trial" "known" "[I" ∈ kAL := List.mem_filter.mpr ⟨kin_t1 _ (List.mem_of_getElem? (i := 121) rfl), rfl⟩
theorem kq_1_122 : Cond.soleField "Parserpark$Trial" "known" ∈ lw_tbl := kin_t1 _ (List.mem_of_getElem? (i := 122) rfl)
theorem kq_1_123 : Cond.superclass "Parserpark$Trial" "java/lang/Object" ∈ lw_tbl := kin_t1 _ (List.mem_of_getElem? (i := 123) rfl)
theorem kq_1_124 : Cond.fieldLink "Parserpark" 12 "Parserpark" "grammar" "LParserpark$Grammar;" ∈ kAL := List.mem_filter.mpr ⟨kin_t1 _ (List.mem_of_getElem? (i := 124) rfl), rfl⟩
theorem kq_1_125 : Cond.fieldLink "Parserpark" 18 "Parserpark" "texts" "[LParserpark$Text;" ∈ kAL := List.mem_filter.mpr ⟨kin_t1 _ (List.mem_of_getElem? (i := 125) rfl), rfl⟩
theorem kq_1_126 : Cond.fieldLink "Parserpark" 25 "Parserpark" "scratch" "LParserpark$Spans;" ∈ kAL := List.mem_filter.mpr ⟨kin_t1 _ (List.mem_of_getElem? (i := 126) rfl), rfl⟩
theorem kq_1_127 : Cond.fieldLink "Parserpark" 32 "Parserpark" "layout" "LParserpark$Layout;" ∈ kAL := List.mem_filter.mpr ⟨kin_t1 _ (List.mem_of_getElem? (i := 127) rfl), rfl⟩
theorem kq_1_128 : Cond.fieldLink "Parserpark" 39 "Parserpark" "trial" "LParserpark$Trial;" ∈ kAL := List.mem_filter.mpr ⟨kin_t1 _ (List.mem_of_getElem? (i := 128) rfl), rfl⟩
theorem kq_1_129 : Cond.fieldLink "Parserpark" 43 "Parserpark" "textCount" "I" ∈ kAL := List.mem_filter.mpr ⟨kin_t1 _ (List.mem_of_getElem? (i := 129) rfl), rfl⟩
theorem kq_1_130 : Cond.fieldLink "Parserpark" 47 "Parserpark" "releases" "I" ∈ kAL := List.mem_filter.mpr ⟨kin_t1 _ (List.mem_of_getElem? (i := 130) rfl), rfl⟩
theorem kq_1_131 : Cond.fieldLink "Parserpark" 50 "Parserpark" "found" "J" ∈ kAL := List.mem_filter.mpr ⟨kin_t1 _ (List.mem_of_getElem? (i := 131) rfl), rfl⟩
theorem kq_1_132 : Cond.laysFinal "Parserpark" "Parserpark" "grammar" "LParserpark$Grammar;" ∈ kAL := List.mem_filter.mpr ⟨kin_t1 _ (List.mem_of_getElem? (i := 132) rfl), rfl⟩
theorem kq_1_133 : Cond.soleField "Parserpark" "grammar" ∈ lw_tbl := kin_t1 _ (List.mem_of_getElem? (i := 133) rfl)
theorem kq_1_134 : Cond.laysFinal "Parserpark" "Parserpark" "texts" "[LParserpark$Text;" ∈ kAL := List.mem_filter.mpr ⟨kin_t1 _ (List.mem_of_getElem? (i := 134) rfl), rfl⟩
theorem kq_1_135 : Cond.soleField "Parserpark" "texts" ∈ lw_tbl := kin_t1 _ (List.mem_of_getElem? (i := 135) rfl)
theorem kq_1_136 : Cond.laysFinal "Parserpark" "Parserpark" "scratch" "LParserpark$Spans;" ∈ kAL := List.mem_filter.mpr ⟨kin_t1 _ (List.mem_of_getElem? (i := 136) rfl), rfl⟩
theorem kq_1_137 : Cond.soleField "Parserpark" "scratch" ∈ lw_tbl := kin_t1 _ (List.mem_of_getElem? (i := 137) rfl)
theorem kq_1_138 : Cond.laysFinal "Parserpark" "Parserpark" "layout" "LParserpark$Layout;" ∈ kAL := List.mem_filter.mpr ⟨kin_t1 _ (List.mem_of_getElem? (i := 138) rfl), rfl⟩
theorem kq_1_139 : Cond.soleField "Parserpark" "layout" ∈ lw_tbl := kin_t1 _ (List.mem_of_getElem? (i := 139) rfl)
theorem kq_1_140 : Cond.laysFinal "Parserpark" "Parserpark" "trial" "LParserpark$Trial;" ∈ kAL := List.mem_filter.mpr ⟨kin_t1 _ (List.mem_of_getElem? (i := 140) rfl), rfl⟩
theorem kq_1_141 : Cond.soleField "Parserpark" "trial" ∈ lw_tbl := kin_t1 _ (List.mem_of_getElem? (i := 141) rfl)
theorem kq_1_142 : Cond.lays "Parserpark" "Parserpark" "textCount" "I" ∈ kAL := List.mem_filter.mpr ⟨kin_t1 _ (List.mem_of_getElem? (i := 142) rfl), rfl⟩
theorem kq_1_143 : Cond.soleField "Parserpark" "textCount" ∈ lw_tbl := kin_t1 _ (List.mem_of_getElem? (i := 143) rfl)
theorem kq_1_144 : Cond.lays "Parserpark" "Parserpark" "releases" "I" ∈ kAL := List.mem_filter.mpr ⟨kin_t1 _ (List.mem_of_getElem? (i := 144) rfl), rfl⟩
theorem kq_1_145 : Cond.soleField "Parserpark" "releases" ∈ lw_tbl := kin_t1 _ (List.mem_of_getElem? (i := 145) rfl)
theorem kq_1_146 : Cond.lays "Parserpark" "Parserpark" "found" "J" ∈ kAL := List.mem_filter.mpr ⟨kin_t1 _ (List.mem_of_getElem? (i := 146) rfl), rfl⟩
theorem kq_1_147 : Cond.soleField "Parserpark" "found" ∈ lw_tbl := kin_t1 _ (List.mem_of_getElem? (i := 147) rfl)
theorem kq_1_148 : Cond.superclass "Parserpark" "java/lang/Object" ∈ lw_tbl := kin_t1 _ (List.mem_of_getElem? (i := 148) rfl)
theorem kq_1_149 : Cond.methodLink "ParserparkLaw" 130 yX6_rules ∈ kAL := List.mem_filter.mpr ⟨kin_t1 _ (List.mem_of_getElem? (i := 149) rfl), rfl⟩
theorem kq_1_150 : Cond.instanceMethod yX6_rules ∈ kAL := List.mem_filter.mpr ⟨kin_t1 _ (List.mem_of_getElem? (i := 150) rfl), rfl⟩
theorem kq_1_151 : Cond.selects "Parserpark" yX6_rules yX6_rules ∈ kAL := List.mem_filter.mpr ⟨kin_t1 _ (List.mem_of_getElem? (i := 151) rfl), rfl⟩
theorem kq_1_152 : Cond.code yX6_rules prog_1_method_6_code 1 (some .int) ∈ kAL := List.mem_filter.mpr ⟨kin_t1 _ (List.mem_of_getElem? (i := 152) rfl), rfl⟩
theorem kq_1_153 : Cond.methodLink "Parserpark" 108 yX0_countLive ∈ kAL := List.mem_filter.mpr ⟨kin_t1 _ (List.mem_of_getElem? (i := 153) rfl), rfl⟩
theorem kq_1_154 : Cond.instanceMethod yX0_countLive ∈ kAL := List.mem_filter.mpr ⟨kin_t1 _ (List.mem_of_getElem? (i := 154) rfl), rfl⟩
theorem kq_1_155 : Cond.selects "Parserpark$Grammar" yX0_countLive yX0_countLive ∈ kAL := List.mem_filter.mpr ⟨kin_t1 _ (List.mem_of_getElem? (i := 155) rfl), rfl⟩
theorem kq_1_156 : Cond.code yX0_countLive prog_2_method_5_code 3 (some .int) ∈ kAL := List.mem_filter.mpr ⟨kin_t1 _ (List.mem_of_getElem? (i := 156) rfl), rfl⟩
theorem kq_1_157 : Cond.methodLink "Parserpark$Grammar" 25 yX0_liveRule ∈ kAL := List.mem_filter.mpr ⟨kin_t1 _ (List.mem_of_getElem? (i := 157) rfl), rfl⟩
theorem kq_1_158 : Cond.instanceMethod yX0_liveRule ∈ kAL := List.mem_filter.mpr ⟨kin_t1 _ (List.mem_of_getElem? (i := 158) rfl), rfl⟩
theorem kq_1_159 : Cond.selects "Parserpark$Grammar" yX0_liveRule yX0_liveRule ∈ kAL := List.mem_filter.mpr ⟨kin_t1 _ (List.mem_of_getElem? (i := 159) rfl), rfl⟩
theorem kq_1_160 : Cond.code yX0_liveRule prog_2_method_4_code 3 (some (.object "Parserpark$Rule")) ∈ kAL := List.mem_filter.mpr ⟨kin_t1 _ (List.mem_of_getElem? (i := 160) rfl), rfl⟩
theorem kq_1_161 : Cond.methodLink "ParserparkLaw" 192 yX6_work ∈ kAL := List.mem_filter.mpr ⟨kin_t1 _ (List.mem_of_getElem? (i := 161) rfl), rfl⟩
theorem kq_1_162 : Cond.instanceMethod yX6_work ∈ kAL := List.mem_filter.mpr ⟨kin_t1 _ (List.mem_of_getElem? (i := 162) rfl), rfl⟩
theorem kq_1_163 : Cond.selects "Parserpark" yX6_work yX6_work ∈ kAL := List.mem_filter.mpr ⟨kin_t1 _ (List.mem_of_getElem? (i := 163) rfl), rfl⟩
theorem kq_1_164 : Cond.code yX6_work prog_1_method_26_code 1 (some .long) ∈ kAL := List.mem_filter.mpr ⟨kin_t1 _ (List.mem_of_getElem? (i := 164) rfl), rfl⟩
theorem kq_1_165 : Cond.methodLink "ParserparkLaw" 204 yX6_isSound ∈ kAL := List.mem_filter.mpr ⟨kin_t1 _ (List.mem_of_getElem? (i := 165) rfl), rfl⟩
theorem kq_1_166 : Cond.instanceMethod yX6_isSound ∈ kAL := List.mem_filter.mpr ⟨kin_t1 _ (List.mem_of_getElem? (i := 166) rfl), rfl⟩
theorem kq_1_167 : Cond.selects "Parserpark" yX6_isSound yX6_isSound ∈ kAL := List.mem_filter.mpr ⟨kin_t1 _ (List.mem_of_getElem? (i := 167) rfl), rfl⟩
theorem kq_1_168 : Cond.code yX6_isSound prog_1_method_29_code 5 (some .boolean) ∈ kAL := List.mem_filter.mpr ⟨kin_t1 _ (List.mem_of_getElem? (i := 168) rfl), rfl⟩
theorem kq_1_169 : Cond.methodLink "Parserpark" 209 yX6_isSoundText ∈ kAL := List.mem_filter.mpr ⟨kin_t1 _ (List.mem_of_getElem? (i := 169) rfl), rfl⟩
theorem kq_1_170 : Cond.privateMethod yX6_isSoundText ∈ lw_tbl := kin_t1 _ (List.mem_of_getElem? (i := 170) rfl)
theorem kq_1_171 : Cond.instanceMethod yX6_isSoundText ∈ kAL := List.mem_filter.mpr ⟨kin_t1 _ (List.mem_of_getElem? (i := 171) rfl), rfl⟩
theorem kq_1_172 : Cond.code yX6_isSoundText prog_1_method_47_code 3 (some .boolean) ∈ kAL := List.mem_filter.mpr ⟨kin_t1 _ (List.mem_of_getElem? (i := 172) rfl), rfl⟩
theorem kq_1_173 : Cond.methodLink "Parserpark" 134 yX3_treesOfAll ∈ kAL := List.mem_filter.mpr ⟨kin_t1 _ (List.mem_of_getElem? (i := 173) rfl), rfl⟩
theorem kq_1_174 : Cond.instanceMethod yX3_treesOfAll ∈ kAL := List.mem_filter.mpr ⟨kin_t1 _ (List.mem_of_getElem? (i := 174) rfl), rfl⟩
theorem kq_1_175 : Cond.selects "Parserpark$Spans" yX3_treesOfAll yX3_treesOfAll ∈ kAL := List.mem_filter.mpr ⟨kin_t1 _ (List.mem_of_getElem? (i := 175) rfl), rfl⟩
theorem kq_1_176 : Cond.code yX3_treesOfAll prog_5_method_13_code 1 (some .int) ∈ kAL := List.mem_filter.mpr ⟨kin_t1 _ (List.mem_of_getElem? (i := 176) rfl), rfl⟩
theorem kq_1_177 : Cond.methodLink "Parserpark$Spans" 90 yX3_treesOf ∈ kAL := List.mem_filter.mpr ⟨kin_t1 _ (List.mem_of_getElem? (i := 177) rfl), rfl⟩
theorem kq_1_178 : Cond.instanceMethod yX3_treesOf ∈ kAL := List.mem_filter.mpr ⟨kin_t1 _ (List.mem_of_getElem? (i := 178) rfl), rfl⟩
theorem kq_1_179 : Cond.selects "Parserpark$Spans" yX3_treesOf yX3_treesOf ∈ kAL := List.mem_filter.mpr ⟨kin_t1 _ (List.mem_of_getElem? (i := 179) rfl), rfl⟩
theorem kq_1_180 : Cond.code yX3_treesOf prog_5_method_14_code 4 (some .int) ∈ kAL := List.mem_filter.mpr ⟨kin_t1 _ (List.mem_of_getElem? (i := 180) rfl), rfl⟩
theorem kq_1_181 : Cond.methodLink "Parserpark" 151 yX5_treesOfAll ∈ kAL := List.mem_filter.mpr ⟨kin_t1 _ (List.mem_of_getElem? (i := 181) rfl), rfl⟩
theorem kq_1_182 : Cond.instanceMethod yX5_treesOfAll ∈ kAL := List.mem_filter.mpr ⟨kin_t1 _ (List.mem_of_getElem? (i := 182) rfl), rfl⟩
theorem kq_1_183 : Cond.selects "Parserpark$Trial" yX5_treesOfAll yX5_treesOfAll ∈ kAL := List.mem_filter.mpr ⟨kin_t1 _ (List.mem_of_getElem? (i := 183) rfl), rfl⟩
theorem kq_1_184 : Cond.code yX5_treesOfAll prog_7_method_2_code 3 (some .int) ∈ kAL := List.mem_filter.mpr ⟨kin_t1 _ (List.mem_of_getElem? (i := 184) rfl), rfl⟩
theorem kq_1_185 : Cond.methodLink "Parserpark$Trial" 15 yJ7_fill_53178 ∈ kAL := List.mem_filter.mpr ⟨kin_t1 _ (List.mem_of_getElem? (i := 185) rfl), rfl⟩
theorem kq_1_186 : Cond.static yJ7_fill_53178 ∈ kAL := List.mem_filter.mpr ⟨kin_t1 _ (List.mem_of_getElem? (i := 186) rfl), rfl⟩
theorem kq_1_187 : Cond.code yJ7_fill_53178 prog_22_method_103_code 4 none ∈ kAL := List.mem_filter.mpr ⟨kin_t1 _ (List.mem_of_getElem? (i := 187) rfl), rfl⟩
theorem kq_1_188 : Cond.methodLink "Parserpark$Trial" 27 yX5_tryName ∈ kAL := List.mem_filter.mpr ⟨kin_t1 _ (List.mem_of_getElem? (i := 188) rfl), rfl⟩
theorem kq_1_189 : Cond.privateMethod yX5_tryName ∈ lw_tbl := kin_t1 _ (List.mem_of_getElem? (i := 189) rfl)
theorem kq_1_190 : Cond.instanceMethod yX5_tryName ∈ kAL := List.mem_filter.mpr ⟨kin_t1 _ (List.mem_of_getElem? (i := 190) rfl), rfl⟩
theorem kq_1_191 : Cond.code yX5_tryName prog_7_method_3_code 11 (some .int) ∈ kAL := List.mem_filter.mpr ⟨kin_t1 _ (List.mem_of_getElem? (i := 191) rfl), rfl⟩
theorem kq_1_192 : Cond.methodLinkNest "Parserpark$Trial" 31 yX6_spot "Parserpark" ∈ kBL := List.mem_filter.mpr ⟨kin_t1 _ (List.mem_of_getElem? (i := 192) rfl), rfl⟩
theorem kq_1_193 : Cond.static yX6_spot ∈ kAL := List.mem_filter.mpr ⟨kin_t1 _ (List.mem_of_getElem? (i := 193) rfl), rfl⟩
theorem kq_1_194 : Cond.code yX6_spot prog_1_method_36_code 3 (some .int) ∈ kAL := List.mem_filter.mpr ⟨kin_t1 _ (List.mem_of_getElem? (i := 194) rfl), rfl⟩
theorem kq_1_195 : Cond.methodLink "Parserpark$Trial" 40 yX0_liveRule ∈ kAL := List.mem_filter.mpr ⟨kin_t1 _ (List.mem_of_getElem? (i := 195) rfl), rfl⟩
theorem kq_1_196 : Cond.methodLink "Parserpark$Trial" 49 yX5_tryRule ∈ kAL := List.mem_filter.mpr ⟨kin_t1 _ (List.mem_of_getElem? (i := 196) rfl), rfl⟩
theorem kq_1_197 : Cond.privateMethod yX5_tryRule ∈ lw_tbl := kin_t1 _ (List.mem_of_getElem? (i := 197) rfl)
theorem kq_1_198 : Cond.instanceMethod yX5_tryRule ∈ kAL := List.mem_filter.mpr ⟨kin_t1 _ (List.mem_of_getElem? (i := 198) rfl), rfl⟩
theorem kq_1_199 : Cond.code yX5_tryRule prog_7_method_4_code 10 (some .int) ∈ kAL := List.mem_filter.mpr ⟨kin_t1 _ (List.mem_of_getElem? (i := 199) rfl), rfl⟩
theorem kq_1_200 : Cond.methodLink "Parserpark$Trial" 63 yX5_tryPart ∈ kAL := List.mem_filter.mpr ⟨kin_t1 _ (List.mem_of_getElem? (i := 200) rfl), rfl⟩
theorem kq_1_201 : Cond.privateMethod yX5_tryPart ∈ lw_tbl := kin_t1 _ (List.mem_of_getElem? (i := 201) rfl)
theorem kq_1_202 : Cond.instanceMethod yX5_tryPart ∈ kAL := List.mem_filter.mpr ⟨kin_t1 _ (List.mem_of_getElem? (i := 202) rfl), rfl⟩
theorem kq_1_203 : Cond.code yX5_tryPart prog_7_method_6_code 7 (some .int) ∈ kAL := List.mem_filter.mpr ⟨kin_t1 _ (List.mem_of_getElem? (i := 203) rfl), rfl⟩
theorem kq_1_204 : Cond.methodLinkNest "Parserpark$Trial" 72 yX6_isLetter "Parserpark" ∈ kBL := List.mem_filter.mpr ⟨kin_t1 _ (List.mem_of_getElem? (i := 204) rfl), rfl⟩
theorem kq_1_205 : Cond.static yX6_isLetter ∈ kAL := List.mem_filter.mpr ⟨kin_t1 _ (List.mem_of_getElem? (i := 205) rfl), rfl⟩
theorem kq_1_206 : Cond.code yX6_isLetter prog_1_method_31_code 1 (some .boolean) ∈ kAL := List.mem_filter.mpr ⟨kin_t1 _ (List.mem_of_getElem? (i := 206) rfl), rfl⟩
theorem kq_1_207 : Cond.methodLink "Parserpark$Trial" 76 yX3_treesOf ∈ kAL := List.mem_filter.mpr ⟨kin_t1 _ (List.mem_of_getElem? (i := 207) rfl), rfl⟩
theorem kq_1_208 : Cond.methodLink "Parserpark$Trial" 66 yX5_tryBehindFirst ∈ kAL := List.mem_filter.mpr ⟨kin_t1 _ (List.mem_of_getElem? (i := 208) rfl), rfl⟩
theorem kq_1_209 : Cond.privateMethod yX5_tryBehindFirst ∈ lw_tbl := kin_t1 _ (List.mem_of_getElem? (i := 209) rfl)
theorem kq_1_210 : Cond.instanceMethod yX5_tryBehindFirst ∈ kAL := List.mem_filter.mpr ⟨kin_t1 _ (List.mem_of_getElem? (i := 210) rfl), rfl⟩
theorem kq_1_211 : Cond.code yX5_tryBehindFirst prog_7_method_5_code 10 (some .int) ∈ kAL := List.mem_filter.mpr ⟨kin_t1 _ (List.mem_of_getElem? (i := 211) rfl), rfl⟩
theorem kq_1_212 : Cond.methodLinkNest "Parserpark$Trial" 53 yX6_limited "Parserpark" ∈ kBL := List.mem_filter.mpr ⟨kin_t1 _ (List.mem_of_getElem? (i := 212) rfl), rfl⟩
theorem kq_1_213 : Cond.static yX6_limited ∈ kAL := List.mem_filter.mpr ⟨kin_t1 _ (List.mem_of_getElem? (i := 213) rfl), rfl⟩
theorem kq_1_214 : Cond.code yX6_limited prog_1_method_35_code 1 (some .int) ∈ kAL := List.mem_filter.mpr ⟨kin_t1 _ (List.mem_of_getElem? (i := 214) rfl), rfl⟩
theorem kq_1_215 : Cond.methodLink "Parserpark" 250 yX3_copyLetters ∈ kAL := List.mem_filter.mpr ⟨kin_t1 _ (List.mem_of_getElem? (i := 215) rfl), rfl⟩
theorem kq_1_216 : Cond.instanceMethod yX3_copyLetters ∈ kAL := List.mem_filter.mpr ⟨kin_t1 _ (List.mem_of_getElem? (i := 216) rfl), rfl⟩
theorem kq_1_217 : Cond.selects "Parserpark$Spans" yX3_copyLetters yX3_copyLetters ∈ kAL := List.mem_filter.mpr ⟨kin_t1 _ (List.mem_of_getElem? (i := 217) rfl), rfl⟩
theorem kq_1_218 : Cond.code yX3_copyLetters prog_5_method_5_code 3 none ∈ kAL := List.mem_filter.mpr ⟨kin_t1 _ (List.mem_of_getElem? (i := 218) rfl), rfl⟩
theorem kq_1_219 : Cond.methodLink "Parserpark$Spans" 26 yX3_letterOf ∈ kAL := List.mem_filter.mpr ⟨kin_t1 _ (List.mem_of_getElem? (i := 219) rfl), rfl⟩
theorem kq_1_220 : Cond.instanceMethod yX3_letterOf ∈ kAL := List.mem_filter.mpr ⟨kin_t1 _ (List.mem_of_getElem? (i := 220) rfl), rfl⟩
theorem kq_1_221 : Cond.selects "Parserpark$Spans" yX3_letterOf yX3_letterOf ∈ kAL := List.mem_filter.mpr ⟨kin_t1 _ (List.mem_of_getElem? (i := 221) rfl), rfl⟩
theorem kq_1_222 : Cond.code yX3_letterOf prog_5_method_2_code 2 (some .int) ∈ kAL := List.mem_filter.mpr ⟨kin_t1 _ (List.mem_of_getElem? (i := 222) rfl), rfl⟩
theorem kq_1_223 : Cond.methodLink "Parserpark$Spans" 22 yX3_put ∈ kAL := List.mem_filter.mpr ⟨kin_t1 _ (List.mem_of_getElem? (i := 223) rfl), rfl⟩
theorem kq_1_224 : Cond.instanceMethod yX3_put ∈ kAL := List.mem_filter.mpr ⟨kin_t1 _ (List.mem_of_getElem? (i := 224) rfl), rfl⟩
theorem kq_1_225 : Cond.selects "Parserpark$Spans" yX3_put yX3_put ∈ kAL := List.mem_filter.mpr ⟨kin_t1 _ (List.mem_of_getElem? (i := 225) rfl), rfl⟩
theorem kq_1_226 : Cond.code yX3_put prog_5_method_3_code 3 none ∈ kAL := List.mem_filter.mpr ⟨kin_t1 _ (List.mem_of_getElem? (i := 226) rfl), rfl⟩
theorem kq_1_227 : Cond.methodLink "Parserpark" 229 yX3_findAll ∈ kAL := List.mem_filter.mpr ⟨kin_t1 _ (List.mem_of_getElem? (i := 227) rfl), rfl⟩
theorem kq_1_228 : Cond.instanceMethod yX3_findAll ∈ kAL := List.mem_filter.mpr ⟨kin_t1 _ (List.mem_of_getElem? (i := 228) rfl), rfl⟩
theorem kq_1_229 : Cond.selects "Parserpark$Spans" yX3_findAll yX3_findAll ∈ kAL := List.mem_filter.mpr ⟨kin_t1 _ (List.mem_of_getElem? (i := 229) rfl), rfl⟩
theorem kq_1_230 : Cond.code yX3_findAll prog_5_method_10_code 5 (some .int) ∈ kAL := List.mem_filter.mpr ⟨kin_t1 _ (List.mem_of_getElem? (i := 230) rfl), rfl⟩
theorem kq_1_231 : Cond.methodLink "Parserpark$Spans" 60 yX3_findSpan ∈ kAL := List.mem_filter.mpr ⟨kin_t1 _ (List.mem_of_getElem? (i := 231) rfl), rfl⟩
theorem kq_1_232 : Cond.privateMethod yX3_findSpan ∈ lw_tbl := kin_t1 _ (List.mem_of_getElem? (i := 232) rfl)
theorem kq_1_233 : Cond.instanceMethod yX3_findSpan ∈ kAL := List.mem_filter.mpr ⟨kin_t1 _ (List.mem_of_getElem? (i := 233) rfl), rfl⟩
theorem kq_1_234 : Cond.code yX3_findSpan prog_5_method_12_code 8 none ∈ kAL := List.mem_filter.mpr ⟨kin_t1 _ (List.mem_of_getElem? (i := 234) rfl), rfl⟩
theorem kq_1_235 : Cond.methodLink "Parserpark$Spans" 72 yX0_liveRule ∈ kAL := List.mem_filter.mpr ⟨kin_t1 _ (List.mem_of_getElem? (i := 235) rfl), rfl⟩
theorem kq_1_236 : Cond.methodLink "Parserpark$Spans" 79 yX3_treesByRule ∈ kAL := List.mem_filter.mpr ⟨kin_t1 _ (List.mem_of_getElem? (i := 236) rfl), rfl⟩
theorem kq_1_237 : Cond.instanceMethod yX3_treesByRule ∈ kAL := List.mem_filter.mpr ⟨kin_t1 _ (List.mem_of_getElem? (i := 237) rfl), rfl⟩
theorem kq_1_238 : Cond.selects "Parserpark$Spans" yX3_treesByRule yX3_treesByRule ∈ kAL := List.mem_filter.mpr ⟨kin_t1 _ (List.mem_of_getElem? (i := 238) rfl), rfl⟩
theorem kq_1_239 : Cond.code yX3_treesByRule prog_5_method_15_code 9 (some .int) ∈ kAL := List.mem_filter.mpr ⟨kin_t1 _ (List.mem_of_getElem? (i := 239) rfl), rfl⟩
theorem kq_2_0 : Cond.methodLinkNest "Parserpark$Spans" 83 yX6_limited "Parserpark" ∈ kBL := List.mem_filter.mpr ⟨kin_t2 _ (List.mem_of_getElem? (i := 0) rfl), rfl⟩
theorem kq_2_1 : Cond.methodLinkNest "Parserpark$Spans" 86 yX6_spot "Parserpark" ∈ kBL := List.mem_filter.mpr ⟨kin_t2 _ (List.mem_of_getElem? (i := 1) rfl), rfl⟩
theorem kq_2_2 : Cond.methodLink "Parserpark" 254 yX3_hasNumbersOf ∈ kAL := List.mem_filter.mpr ⟨kin_t2 _ (List.mem_of_getElem? (i := 2) rfl), rfl⟩
theorem kq_2_3 : Cond.instanceMethod yX3_hasNumbersOf ∈ kAL := List.mem_filter.mpr ⟨kin_t2 _ (List.mem_of_getElem? (i := 3) rfl), rfl⟩
theorem kq_2_4 : Cond.selects "Parserpark$Spans" yX3_hasNumbersOf yX3_hasNumbersOf ∈ kAL := List.mem_filter.mpr ⟨kin_t2 _ (List.mem_of_getElem? (i := 4) rfl), rfl⟩
theorem kq_2_5 : Cond.code yX3_hasNumbersOf prog_5_method_17_code 5 (some .boolean) ∈ kAL := List.mem_filter.mpr ⟨kin_t2 _ (List.mem_of_getElem? (i := 5) rfl), rfl⟩
theorem kq_2_6 : Cond.methodLink "Parserpark" 177 yX1_lay ∈ kAL := List.mem_filter.mpr ⟨kin_t2 _ (List.mem_of_getElem? (i := 6) rfl), rfl⟩
theorem kq_2_7 : Cond.instanceMethod yX1_lay ∈ kAL := List.mem_filter.mpr ⟨kin_t2 _ (List.mem_of_getElem? (i := 7) rfl), rfl⟩
theorem kq_2_8 : Cond.selects "Parserpark$Layout" yX1_lay yX1_lay ∈ kAL := List.mem_filter.mpr ⟨kin_t2 _ (List.mem_of_getElem? (i := 8) rfl), rfl⟩
theorem kq_2_9 : Cond.code yX1_lay prog_3_method_2_code 9 none ∈ kAL := List.mem_filter.mpr ⟨kin_t2 _ (List.mem_of_getElem? (i := 9) rfl), rfl⟩
theorem kq_2_10 : Cond.methodLink "Parserpark$Layout" 46 yX1_clear ∈ kAL := List.mem_filter.mpr ⟨kin_t2 _ (List.mem_of_getElem? (i := 10) rfl), rfl⟩
theorem kq_2_11 : Cond.privateMethod yX1_clear ∈ lw_tbl := kin_t2 _ (List.mem_of_getElem? (i := 11) rfl)
theorem kq_2_12 : Cond.instanceMethod yX1_clear ∈ kAL := List.mem_filter.mpr ⟨kin_t2 _ (List.mem_of_getElem? (i := 12) rfl), rfl⟩
theorem kq_2_13 : Cond.code yX1_clear prog_3_method_3_code 1 none ∈ kAL := List.mem_filter.mpr ⟨kin_t2 _ (List.mem_of_getElem? (i := 13) rfl), rfl⟩
theorem kq_2_14 : Cond.methodLink "Parserpark$Layout" 86 yJ7_fill_53178 ∈ kAL := List.mem_filter.mpr ⟨kin_t2 _ (List.mem_of_getElem? (i := 14) rfl), rfl⟩
theorem kq_2_15 : Cond.methodLink "Parserpark$Layout" 49 yX3_treesOfAll ∈ kAL := List.mem_filter.mpr ⟨kin_t2 _ (List.mem_of_getElem? (i := 15) rfl), rfl⟩
theorem kq_2_16 : Cond.methodLink "Parserpark$Layout" 58 yX1_push ∈ kAL := List.mem_filter.mpr ⟨kin_t2 _ (List.mem_of_getElem? (i := 16) rfl), rfl⟩
theorem kq_2_17 : Cond.privateMethod yX1_push ∈ lw_tbl := kin_t2 _ (List.mem_of_getElem? (i := 17) rfl)
theorem kq_2_18 : Cond.instanceMethod yX1_push ∈ kAL := List.mem_filter.mpr ⟨kin_t2 _ (List.mem_of_getElem? (i := 18) rfl), rfl⟩
theorem kq_2_19 : Cond.code yX1_push prog_3_method_4_code 5 none ∈ kAL := List.mem_filter.mpr ⟨kin_t2 _ (List.mem_of_getElem? (i := 19) rfl), rfl⟩
theorem kq_2_20 : Cond.methodLinkNest "Parserpark$Layout" 62 yX6_isLetter "Parserpark" ∈ kBL := List.mem_filter.mpr ⟨kin_t2 _ (List.mem_of_getElem? (i := 20) rfl), rfl⟩
theorem kq_2_21 : Cond.methodLink "Parserpark$Layout" 66 yJ9_max_7cf53 ∈ kAL := List.mem_filter.mpr ⟨kin_t2 _ (List.mem_of_getElem? (i := 21) rfl), rfl⟩
theorem kq_2_22 : Cond.static yJ9_max_7cf53 ∈ kAL := List.mem_filter.mpr ⟨kin_t2 _ (List.mem_of_getElem? (i := 22) rfl), rfl⟩
theorem kq_2_23 : Cond.code yJ9_max_7cf53 prog_17_method_65_code 2 (some .int) ∈ kAL := List.mem_filter.mpr ⟨kin_t2 _ (List.mem_of_getElem? (i := 23) rfl), rfl⟩
theorem kq_2_24 : Cond.methodLink "Parserpark$Layout" 72 yX0_chosenRule ∈ kAL := List.mem_filter.mpr ⟨kin_t2 _ (List.mem_of_getElem? (i := 24) rfl), rfl⟩
theorem kq_2_25 : Cond.instanceMethod yX0_chosenRule ∈ kAL := List.mem_filter.mpr ⟨kin_t2 _ (List.mem_of_getElem? (i := 25) rfl), rfl⟩
theorem kq_2_26 : Cond.selects "Parserpark$Grammar" yX0_chosenRule yX0_chosenRule ∈ kAL := List.mem_filter.mpr ⟨kin_t2 _ (List.mem_of_getElem? (i := 26) rfl), rfl⟩
theorem kq_2_27 : Cond.code yX0_chosenRule prog_2_method_6_code 9 (some (.object "Parserpark$Rule")) ∈ kAL := List.mem_filter.mpr ⟨kin_t2 _ (List.mem_of_getElem? (i := 27) rfl), rfl⟩
theorem kq_2_28 : Cond.methodLink "Parserpark$Grammar" 35 yX3_splitOf ∈ kAL := List.mem_filter.mpr ⟨kin_t2 _ (List.mem_of_getElem? (i := 28) rfl), rfl⟩
theorem kq_2_29 : Cond.instanceMethod yX3_splitOf ∈ kAL := List.mem_filter.mpr ⟨kin_t2 _ (List.mem_of_getElem? (i := 29) rfl), rfl⟩
theorem kq_2_30 : Cond.selects "Parserpark$Spans" yX3_splitOf yX3_splitOf ∈ kAL := List.mem_filter.mpr ⟨kin_t2 _ (List.mem_of_getElem? (i := 30) rfl), rfl⟩
theorem kq_2_31 : Cond.code yX3_splitOf prog_5_method_16_code 7 (some .int) ∈ kAL := List.mem_filter.mpr ⟨kin_t2 _ (List.mem_of_getElem? (i := 31) rfl), rfl⟩
theorem kq_2_32 : Cond.methodLink "Parserpark$Layout" 78 yX1_layRule ∈ kAL := List.mem_filter.mpr ⟨kin_t2 _ (List.mem_of_getElem? (i := 32) rfl), rfl⟩
theorem kq_2_33 : Cond.privateMethod yX1_layRule ∈ lw_tbl := kin_t2 _ (List.mem_of_getElem? (i := 33) rfl)
theorem kq_2_34 : Cond.instanceMethod yX1_layRule ∈ kAL := List.mem_filter.mpr ⟨kin_t2 _ (List.mem_of_getElem? (i := 34) rfl), rfl⟩
theorem kq_2_35 : Cond.code yX1_layRule prog_3_method_5_code 5 none ∈ kAL := List.mem_filter.mpr ⟨kin_t2 _ (List.mem_of_getElem? (i := 35) rfl), rfl⟩
theorem kq_2_36 : Cond.methodLink "Parserpark$Layout" 82 yX1_pushParts ∈ kAL := List.mem_filter.mpr ⟨kin_t2 _ (List.mem_of_getElem? (i := 36) rfl), rfl⟩
theorem kq_2_37 : Cond.privateMethod yX1_pushParts ∈ lw_tbl := kin_t2 _ (List.mem_of_getElem? (i := 37) rfl)
theorem kq_2_38 : Cond.instanceMethod yX1_pushParts ∈ kAL := List.mem_filter.mpr ⟨kin_t2 _ (List.mem_of_getElem? (i := 38) rfl), rfl⟩
theorem kq_2_39 : Cond.code yX1_pushParts prog_3_method_6_code 9 none ∈ kAL := List.mem_filter.mpr ⟨kin_t2 _ (List.mem_of_getElem? (i := 39) rfl), rfl⟩
theorem kq_2_40 : Cond.methodLink "Parserpark$Layout" 100 yX3_splitOf ∈ kAL := List.mem_filter.mpr ⟨kin_t2 _ (List.mem_of_getElem? (i := 40) rfl), rfl⟩
theorem kq_2_41 : Cond.methodLink "Parserpark$Layout" 110 yX1_setGap ∈ kAL := List.mem_filter.mpr ⟨kin_t2 _ (List.mem_of_getElem? (i := 41) rfl), rfl⟩
theorem kq_2_42 : Cond.privateMethod yX1_setGap ∈ lw_tbl := kin_t2 _ (List.mem_of_getElem? (i := 42) rfl)
theorem kq_2_43 : Cond.instanceMethod yX1_setGap ∈ kAL := List.mem_filter.mpr ⟨kin_t2 _ (List.mem_of_getElem? (i := 43) rfl), rfl⟩
theorem kq_2_44 : Cond.code yX1_setGap prog_3_method_7_code 3 none ∈ kAL := List.mem_filter.mpr ⟨kin_t2 _ (List.mem_of_getElem? (i := 44) rfl), rfl⟩
theorem kq_2_45 : Cond.methodLink "ParserparkLaw" 109 yL_addRule ∈ kAL := List.mem_filter.mpr ⟨kin_t2 _ (List.mem_of_getElem? (i := 45) rfl), rfl⟩
theorem kq_2_46 : Cond.static yL_addRule ∈ kAL := List.mem_filter.mpr ⟨kin_t2 _ (List.mem_of_getElem? (i := 46) rfl), rfl⟩
theorem kq_2_47 : Cond.codeWith yL_addRule method_3_code 7 (some .int) [(0, 14, 17, 13), (0, 14, 21, 15)] ∈ kAL := List.mem_filter.mpr ⟨kin_t2 _ (List.mem_of_getElem? (i := 47) rfl), rfl⟩
theorem kq_2_48 : Cond.classLink "ParserparkLaw" 13 "java/lang/IllegalArgumentException" ∈ kAL := List.mem_filter.mpr ⟨kin_t2 _ (List.mem_of_getElem? (i := 48) rfl), rfl⟩
theorem kq_2_49 : Cond.classLink "ParserparkLaw" 15 "java/lang/IllegalStateException" ∈ kAL := List.mem_filter.mpr ⟨kin_t2 _ (List.mem_of_getElem? (i := 49) rfl), rfl⟩
theorem kq_2_50 : Cond.methodLink "ParserparkLaw" 7 yX6_addRule ∈ kAL := List.mem_filter.mpr ⟨kin_t2 _ (List.mem_of_getElem? (i := 50) rfl), rfl⟩
theorem kq_2_51 : Cond.instanceMethod yX6_addRule ∈ kAL := List.mem_filter.mpr ⟨kin_t2 _ (List.mem_of_getElem? (i := 51) rfl), rfl⟩
theorem kq_2_52 : Cond.selects "Parserpark" yX6_addRule yX6_addRule ∈ kAL := List.mem_filter.mpr ⟨kin_t2 _ (List.mem_of_getElem? (i := 52) rfl), rfl⟩
theorem kq_2_53 : Cond.code yX6_addRule prog_1_method_2_code 6 (some .int) ∈ kAL := List.mem_filter.mpr ⟨kin_t2 _ (List.mem_of_getElem? (i := 53) rfl), rfl⟩
theorem kq_2_54 : Cond.methodLink "Parserpark" 54 yX6_isRuleForm ∈ kAL := List.mem_filter.mpr ⟨kin_t2 _ (List.mem_of_getElem? (i := 54) rfl), rfl⟩
theorem kq_2_55 : Cond.static yX6_isRuleForm ∈ kAL := List.mem_filter.mpr ⟨kin_t2 _ (List.mem_of_getElem? (i := 55) rfl), rfl⟩
theorem kq_2_56 : Cond.code yX6_isRuleForm prog_1_method_34_code 4 (some .boolean) ∈ kAL := List.mem_filter.mpr ⟨kin_t2 _ (List.mem_of_getElem? (i := 56) rfl), rfl⟩
theorem kq_2_57 : Cond.methodLink "Parserpark" 154 yX6_isName ∈ kAL := List.mem_filter.mpr ⟨kin_t2 _ (List.mem_of_getElem? (i := 57) rfl), rfl⟩
theorem kq_2_58 : Cond.static yX6_isName ∈ kAL := List.mem_filter.mpr ⟨kin_t2 _ (List.mem_of_getElem? (i := 58) rfl), rfl⟩
theorem kq_2_59 : Cond.code yX6_isName prog_1_method_32_code 1 (some .boolean) ∈ kAL := List.mem_filter.mpr ⟨kin_t2 _ (List.mem_of_getElem? (i := 59) rfl), rfl⟩
theorem kq_2_60 : Cond.methodLink "Parserpark" 216 yX6_isSymbol ∈ kAL := List.mem_filter.mpr ⟨kin_t2 _ (List.mem_of_getElem? (i := 60) rfl), rfl⟩
theorem kq_2_61 : Cond.static yX6_isSymbol ∈ kAL := List.mem_filter.mpr ⟨kin_t2 _ (List.mem_of_getElem? (i := 61) rfl), rfl⟩
theorem kq_2_62 : Cond.code yX6_isSymbol prog_1_method_33_code 1 (some .boolean) ∈ kAL := List.mem_filter.mpr ⟨kin_t2 _ (List.mem_of_getElem? (i := 62) rfl), rfl⟩
theorem kq_2_63 : Cond.methodLink "Parserpark" 213 yX6_isLetter ∈ kAL := List.mem_filter.mpr ⟨kin_t2 _ (List.mem_of_getElem? (i := 63) rfl), rfl⟩
theorem kq_2_64 : Cond.classLink "Parserpark" 58 "java/lang/IllegalArgumentException" ∈ kAL := List.mem_filter.mpr ⟨kin_t2 _ (List.mem_of_getElem? (i := 64) rfl), rfl⟩
theorem kq_2_65 : Cond.instantiable "java/lang/IllegalArgumentException" 6 ∈ kAL := List.mem_filter.mpr ⟨kin_t2 _ (List.mem_of_getElem? (i := 65) rfl), rfl⟩
theorem kq_2_66 : Cond.castable "java/lang/IllegalArgumentException" "java/lang/IllegalArgumentException" ∈ kBL := List.mem_filter.mpr ⟨kin_t2 _ (List.mem_of_getElem? (i := 66) rfl), rfl⟩
theorem kq_2_67 : Cond.declares (⟨"java/lang/RuntimeException", "<init>", "()V"⟩ : MethodName) ∈ kBL := List.mem_filter.mpr ⟨kin_t2 _ (List.mem_of_getElem? (i := 67) rfl), rfl⟩
theorem kq_2_68 : Cond.declares (⟨"java/lang/RuntimeException", "<init>", "(Ljava/lang/String;)V"⟩ : MethodName) ∈ kBL := List.mem_filter.mpr ⟨kin_t2 _ (List.mem_of_getElem? (i := 68) rfl), rfl⟩
theorem kq_2_69 : Cond.declares (⟨"java/lang/Exception", "<init>", "()V"⟩ : MethodName) ∈ kBL := List.mem_filter.mpr ⟨kin_t2 _ (List.mem_of_getElem? (i := 69) rfl), rfl⟩
theorem kq_2_70 : Cond.declares (⟨"java/lang/Exception", "<init>", "(Ljava/lang/String;)V"⟩ : MethodName) ∈ kBL := List.mem_filter.mpr ⟨kin_t2 _ (List.mem_of_getElem? (i := 70) rfl), rfl⟩
theorem kq_2_71 : Cond.declares (⟨"java/lang/Throwable", "<init>", "()V"⟩ : MethodName) ∈ kBL := List.mem_filter.mpr ⟨kin_t2 _ (List.mem_of_getElem? (i := 71) rfl), rfl⟩
theorem kq_2_72 : Cond.declares (⟨"java/lang/Throwable", "<init>", "(Ljava/lang/String;)V"⟩ : MethodName) ∈ kBL := List.mem_filter.mpr ⟨kin_t2 _ (List.mem_of_getElem? (i := 72) rfl), rfl⟩
theorem kq_2_73 : Cond.selects "java/lang/IllegalArgumentException" (⟨"java/lang/Throwable", "fillInStackTrace", "(I)Ljava/lang/Throwable;"⟩ : MethodName) (⟨"java/lang/Throwable", "fillInStackTrace", "(I)Ljava/lang/Throwable;"⟩ : MethodName) ∈ kAL := List.mem_filter.mpr ⟨kin_t2 _ (List.mem_of_getElem? (i := 73) rfl), rfl⟩
theorem kq_2_74 : Cond.selects "java/lang/IllegalArgumentException" (⟨"java/lang/Throwable", "fillInStackTrace", "()Ljava/lang/Throwable;"⟩ : MethodName) (⟨"java/lang/Throwable", "fillInStackTrace", "()Ljava/lang/Throwable;"⟩ : MethodName) ∈ kAL := List.mem_filter.mpr ⟨kin_t2 _ (List.mem_of_getElem? (i := 74) rfl), rfl⟩
theorem kq_2_75 : Cond.lays "java/lang/IllegalArgumentException" "java/lang/Throwable" "cause" "Ljava/lang/Throwable;" ∈ kAL := List.mem_filter.mpr ⟨kin_t2 _ (List.mem_of_getElem? (i := 75) rfl), rfl⟩
theorem kq_2_76 : Cond.lays "java/lang/Throwable" "java/lang/Throwable" "cause" "Ljava/lang/Throwable;" ∈ kAL := List.mem_filter.mpr ⟨kin_t2 _ (List.mem_of_getElem? (i := 76) rfl), rfl⟩
theorem kq_2_77 : Cond.lays "java/lang/IllegalArgumentException" "java/lang/Throwable" "stackTrace" "[Ljava/lang/StackTraceElement;" ∈ kAL := List.mem_filter.mpr ⟨kin_t2 _ (List.mem_of_getElem? (i := 77) rfl), rfl⟩
theorem kq_2_78 : Cond.lays "java/lang/Throwable" "java/lang/Throwable" "stackTrace" "[Ljava/lang/StackTraceElement;" ∈ kAL := List.mem_filter.mpr ⟨kin_t2 _ (List.mem_of_getElem? (i := 78) rfl), rfl⟩
theorem kq_2_79 : Cond.lays "java/lang/IllegalArgumentException" "java/lang/Throwable" "suppressedExceptions" "Ljava/util/List;" ∈ kAL := List.mem_filter.mpr ⟨kin_t2 _ (List.mem_of_getElem? (i := 79) rfl), rfl⟩
theorem kq_2_80 : Cond.lays "java/lang/Throwable" "java/lang/Throwable" "suppressedExceptions" "Ljava/util/List;" ∈ kAL := List.mem_filter.mpr ⟨kin_t2 _ (List.mem_of_getElem? (i := 80) rfl), rfl⟩
theorem kq_2_81 : Cond.lays "java/lang/IllegalArgumentException" "java/lang/Throwable" "detailMessage" "Ljava/lang/String;" ∈ kAL := List.mem_filter.mpr ⟨kin_t2 _ (List.mem_of_getElem? (i := 81) rfl), rfl⟩
theorem kq_2_82 : Cond.lays "java/lang/Throwable" "java/lang/Throwable" "detailMessage" "Ljava/lang/String;" ∈ kAL := List.mem_filter.mpr ⟨kin_t2 _ (List.mem_of_getElem? (i := 82) rfl), rfl⟩
theorem kq_2_83 : Cond.lays "java/lang/IllegalArgumentException" "java/lang/Throwable" "backtrace" "Ljava/lang/Object;" ∈ kAL := List.mem_filter.mpr ⟨kin_t2 _ (List.mem_of_getElem? (i := 83) rfl), rfl⟩
theorem kq_2_84 : Cond.lays "java/lang/Throwable" "java/lang/Throwable" "backtrace" "Ljava/lang/Object;" ∈ kAL := List.mem_filter.mpr ⟨kin_t2 _ (List.mem_of_getElem? (i := 84) rfl), rfl⟩
theorem kq_2_85 : Cond.fieldLink "java/lang/Throwable" 198 "java/lang/Throwable" "backtrace" "Ljava/lang/Object;" ∈ kAL := List.mem_filter.mpr ⟨kin_t2 _ (List.mem_of_getElem? (i := 85) rfl), rfl⟩
theorem kq_2_86 : Cond.superclass "java/lang/Throwable" "java/lang/Object" ∈ lw_tbl := kin_t2 _ (List.mem_of_getElem? (i := 86) rfl)
theorem kq_2_87 : Cond.instanceMethod (⟨"java/lang/Throwable", "<init>", "()V"⟩ : MethodName) ∈ kAL := List.mem_filter.mpr ⟨kin_t2 _ (List.mem_of_getElem? (i := 87) rfl), rfl⟩
theorem kq_2_88 : Cond.code (⟨"java/lang/Throwable", "<init>", "()V"⟩ : MethodName) prog_20_method_1_code 1 none ∈ kAL := List.mem_filter.mpr ⟨kin_t2 _ (List.mem_of_getElem? (i := 88) rfl), rfl⟩
theorem kq_2_89 : Cond.methodLink "java/lang/Throwable" 1 (⟨"java/lang/Object", "<init>", "()V"⟩ : MethodName) ∈ kAL := List.mem_filter.mpr ⟨kin_t2 _ (List.mem_of_getElem? (i := 89) rfl), rfl⟩
theorem kq_2_90 : Cond.fieldLink "java/lang/Throwable" 13 "java/lang/Throwable" "UNASSIGNED_STACK" "[Ljava/lang/StackTraceElement;" ∈ kAL := List.mem_filter.mpr ⟨kin_t2 _ (List.mem_of_getElem? (i := 90) rfl), rfl⟩
theorem kq_2_91 : Cond.laysStatic "java/lang/Throwable" "UNASSIGNED_STACK" "[Ljava/lang/StackTraceElement;" ∈ lw_tbl := kin_t2 _ (List.mem_of_getElem? (i := 91) rfl)
theorem kq_2_92 : Cond.fieldLink "java/lang/Throwable" 20 "java/lang/Throwable" "SUPPRESSED_SENTINEL" "Ljava/util/List;" ∈ kAL := List.mem_filter.mpr ⟨kin_t2 _ (List.mem_of_getElem? (i := 92) rfl), rfl⟩
theorem kq_2_93 : Cond.laysStatic "java/lang/Throwable" "SUPPRESSED_SENTINEL" "Ljava/util/List;" ∈ lw_tbl := kin_t2 _ (List.mem_of_getElem? (i := 93) rfl)
theorem kq_2_94 : Cond.methodLink "java/lang/Throwable" 27 (⟨"java/lang/Throwable", "fillInStackTrace", "()Ljava/lang/Throwable;"⟩ : MethodName) ∈ kAL := List.mem_filter.mpr ⟨kin_t2 _ (List.mem_of_getElem? (i := 94) rfl), rfl⟩
theorem kq_2_95 : Cond.instanceMethod (⟨"java/lang/Throwable", "fillInStackTrace", "()Ljava/lang/Throwable;"⟩ : MethodName) ∈ kAL := List.mem_filter.mpr ⟨kin_t2 _ (List.mem_of_getElem? (i := 95) rfl), rfl⟩
theorem kq_2_96 : Cond.sameMethod "java/lang/Throwable" "java/lang/Throwable" "fillInStackTrace" "()Ljava/lang/Throwable;" ∈ lw_tbl := kin_t2 _ (List.mem_of_getElem? (i := 96) rfl)
theorem kq_2_97 : Cond.selects "java/lang/ArithmeticException" (⟨"java/lang/Throwable", "fillInStackTrace", "()Ljava/lang/Throwable;"⟩ : MethodName) (⟨"java/lang/Throwable", "fillInStackTrace", "()Ljava/lang/Throwable;"⟩ : MethodName) ∈ kAL := List.mem_filter.mpr ⟨kin_t2 _ (List.mem_of_getElem? (i := 97) rfl), rfl⟩
theorem kq_2_98 : Cond.selects "java/lang/ArrayIndexOutOfBoundsException" (⟨"java/lang/Throwable", "fillInStackTrace", "()Ljava/lang/Throwable;"⟩ : MethodName) (⟨"java/lang/Throwable", "fillInStackTrace", "()Ljava/lang/Throwable;"⟩ : MethodName) ∈ kAL := List.mem_filter.mpr ⟨kin_t2 _ (List.mem_of_getElem? (i := 98) rfl), rfl⟩
theorem kq_2_99 : Cond.selects "java/lang/IllegalStateException" (⟨"java/lang/Throwable", "fillInStackTrace", "()Ljava/lang/Throwable;"⟩ : MethodName) (⟨"java/lang/Throwable", "fillInStackTrace", "()Ljava/lang/Throwable;"⟩ : MethodName) ∈ kAL := List.mem_filter.mpr ⟨kin_t2 _ (List.mem_of_getElem? (i := 99) rfl), rfl⟩
theorem kq_2_100 : Cond.selects "java/lang/IndexOutOfBoundsException" (⟨"java/lang/Throwable", "fillInStackTrace", "()Ljava/lang/Throwable;"⟩ : MethodName) (⟨"java/lang/Throwable", "fillInStackTrace", "()Ljava/lang/Throwable;"⟩ : MethodName) ∈ kAL := List.mem_filter.mpr ⟨kin_t2 _ (List.mem_of_getElem? (i := 100) rfl), rfl⟩
theorem kq_2_101 : Cond.selects "java/lang/UnsupportedOperationException" (⟨"java/lang/Throwable", "fillInStackTrace", "()Ljava/lang/Throwable;"⟩ : MethodName) (⟨"java/lang/Throwable", "fillInStackTrace", "()Ljava/lang/Throwable;"⟩ : MethodName) ∈ kAL := List.mem_filter.mpr ⟨kin_t2 _ (List.mem_of_getElem? (i := 101) rfl), rfl⟩
theorem kq_2_102 : Cond.selects "java/util/NoSuchElementException" (⟨"java/lang/Throwable", "fillInStackTrace", "()Ljava/lang/Throwable;"⟩ : MethodName) (⟨"java/lang/Throwable", "fillInStackTrace", "()Ljava/lang/Throwable;"⟩ : MethodName) ∈ kAL := List.mem_filter.mpr ⟨kin_t2 _ (List.mem_of_getElem? (i := 102) rfl), rfl⟩
theorem kq_2_103 : Cond.codeSync (⟨"java/lang/Throwable", "fillInStackTrace", "()Ljava/lang/Throwable;"⟩ : MethodName) prog_20_method_18_code 1 (some (.object "java/lang/Throwable")) ∈ lw_tbl := kin_t2 _ (List.mem_of_getElem? (i := 103) rfl)
theorem kq_2_104 : Cond.methodLink "java/lang/Throwable" 202 (⟨"java/lang/Throwable", "fillInStackTrace", "(I)Ljava/lang/Throwable;"⟩ : MethodName) ∈ kAL := List.mem_filter.mpr ⟨kin_t2 _ (List.mem_of_getElem? (i := 104) rfl), rfl⟩
theorem kq_2_105 : Cond.privateMethod (⟨"java/lang/Throwable", "fillInStackTrace", "(I)Ljava/lang/Throwable;"⟩ : MethodName) ∈ lw_tbl := kin_t2 _ (List.mem_of_getElem? (i := 105) rfl)
theorem kq_2_106 : Cond.instanceMethod (⟨"java/lang/Throwable", "fillInStackTrace", "(I)Ljava/lang/Throwable;"⟩ : MethodName) ∈ kAL := List.mem_filter.mpr ⟨kin_t2 _ (List.mem_of_getElem? (i := 106) rfl), rfl⟩
theorem kq_2_107 : Cond.instantiable "java/lang/Throwable" 6 ∈ kAL := List.mem_filter.mpr ⟨kin_t2 _ (List.mem_of_getElem? (i := 107) rfl), rfl⟩
theorem kq_2_108 : Cond.native (⟨"java/lang/Throwable", "fillInStackTrace", "(I)Ljava/lang/Throwable;"⟩ : MethodName) ∈ lw_tbl := kin_t2 _ (List.mem_of_getElem? (i := 108) rfl)
theorem kq_2_109 : Cond.methodLink "Parserpark" 60 (⟨"java/lang/IllegalArgumentException", "<init>", "()V"⟩ : MethodName) ∈ kAL := List.mem_filter.mpr ⟨kin_t2 _ (List.mem_of_getElem? (i := 109) rfl), rfl⟩
theorem kq_2_110 : Cond.instanceMethod (⟨"java/lang/IllegalArgumentException", "<init>", "()V"⟩ : MethodName) ∈ kAL := List.mem_filter.mpr ⟨kin_t2 _ (List.mem_of_getElem? (i := 110) rfl), rfl⟩
theorem kq_2_111 : Cond.code (⟨"java/lang/IllegalArgumentException", "<init>", "()V"⟩ : MethodName) prog_14_method_1_code 1 none ∈ kAL := List.mem_filter.mpr ⟨kin_t2 _ (List.mem_of_getElem? (i := 111) rfl), rfl⟩
theorem kq_2_112 : Cond.methodLink "java/lang/IllegalArgumentException" 1 (⟨"java/lang/RuntimeException", "<init>", "()V"⟩ : MethodName) ∈ kAL := List.mem_filter.mpr ⟨kin_t2 _ (List.mem_of_getElem? (i := 112) rfl), rfl⟩
theorem kq_2_113 : Cond.instanceMethod (⟨"java/lang/RuntimeException", "<init>", "()V"⟩ : MethodName) ∈ kAL := List.mem_filter.mpr ⟨kin_t2 _ (List.mem_of_getElem? (i := 113) rfl), rfl⟩
theorem kq_2_114 : Cond.code (⟨"java/lang/RuntimeException", "<init>", "()V"⟩ : MethodName) prog_18_method_1_code 1 none ∈ kAL := List.mem_filter.mpr ⟨kin_t2 _ (List.mem_of_getElem? (i := 114) rfl), rfl⟩
theorem kq_2_115 : Cond.methodLink "java/lang/RuntimeException" 1 (⟨"java/lang/Exception", "<init>", "()V"⟩ : MethodName) ∈ kAL := List.mem_filter.mpr ⟨kin_t2 _ (List.mem_of_getElem? (i := 115) rfl), rfl⟩
theorem kq_2_116 : Cond.instanceMethod (⟨"java/lang/Exception", "<init>", "()V"⟩ : MethodName) ∈ kAL := List.mem_filter.mpr ⟨kin_t2 _ (List.mem_of_getElem? (i := 116) rfl), rfl⟩
theorem kq_2_117 : Cond.code (⟨"java/lang/Exception", "<init>", "()V"⟩ : MethodName) prog_13_method_1_code 1 none ∈ kAL := List.mem_filter.mpr ⟨kin_t2 _ (List.mem_of_getElem? (i := 117) rfl), rfl⟩
theorem kq_2_118 : Cond.methodLink "java/lang/Exception" 1 (⟨"java/lang/Throwable", "<init>", "()V"⟩ : MethodName) ∈ kAL := List.mem_filter.mpr ⟨kin_t2 _ (List.mem_of_getElem? (i := 118) rfl), rfl⟩
theorem kq_2_120 : Cond.fieldLink "java/lang/Throwable" 31 "java/lang/Throwable" "detailMessage" "Ljava/lang/String;" ∈ kAL := List.mem_filter.mpr ⟨kin_t2 _ (List.mem_of_getElem? (i := 120) rfl), rfl⟩
theorem kq_2_121 : Cond.fieldLink "java/lang/Throwable" 7 "java/lang/Throwable" "cause" "Ljava/lang/Throwable;" ∈ kAL := List.mem_filter.mpr ⟨kin_t2 _ (List.mem_of_getElem? (i := 121) rfl), rfl⟩
theorem kq_2_122 : Cond.fieldLink "java/lang/Throwable" 17 "java/lang/Throwable" "stackTrace" "[Ljava/lang/StackTraceElement;" ∈ kAL := List.mem_filter.mpr ⟨kin_t2 _ (List.mem_of_getElem? (i := 122) rfl), rfl⟩
theorem kq_2_123 : Cond.fieldLink "java/lang/Throwable" 24 "java/lang/Throwable" "suppressedExceptions" "Ljava/util/List;" ∈ kAL := List.mem_filter.mpr ⟨kin_t2 _ (List.mem_of_getElem? (i := 123) rfl), rfl⟩
theorem kq_2_124 : Cond.soleField "java/lang/Throwable" "backtrace" ∈ lw_tbl := kin_t2 _ (List.mem_of_getElem? (i := 124) rfl)
theorem kq_2_125 : Cond.soleField "java/lang/Throwable" "detailMessage" ∈ lw_tbl := kin_t2 _ (List.mem_of_getElem? (i := 125) rfl)
theorem kq_2_126 : Cond.soleField "java/lang/Throwable" "cause" ∈ lw_tbl := kin_t2 _ (List.mem_of_getElem? (i := 126) rfl)
theorem kq_2_127 : Cond.soleField "java/lang/Throwable" "stackTrace" ∈ lw_tbl := kin_t2 _ (List.mem_of_getElem? (i := 127) rfl)
theorem kq_2_128 : Cond.lays "java/lang/IllegalArgumentException" "java/lang/Throwable" "depth" "I" ∈ kAL := List.mem_filter.mpr ⟨kin_t2 _ (List.mem_of_getElem? (i := 128) rfl), rfl⟩
theorem kq_2_129 : Cond.soleField "java/lang/Throwable" "depth" ∈ lw_tbl := kin_t2 _ (List.mem_of_getElem? (i := 129) rfl)
theorem kq_2_130 : Cond.soleField "java/lang/Throwable" "suppressedExceptions" ∈ lw_tbl := kin_t2 _ (List.mem_of_getElem? (i := 130) rfl)
theorem kq_2_131 : Cond.superclass "java/lang/IllegalArgumentException" "java/lang/RuntimeException" ∈ lw_tbl := kin_t2 _ (List.mem_of_getElem? (i := 131) rfl)
theorem kq_2_132 : Cond.methodLink "Parserpark" 61 yX0_hasRoom ∈ kAL := List.mem_filter.mpr ⟨kin_t2 _ (List.mem_of_getElem? (i := 132) rfl), rfl⟩
theorem kq_2_133 : Cond.instanceMethod yX0_hasRoom ∈ kAL := List.mem_filter.mpr ⟨kin_t2 _ (List.mem_of_getElem? (i := 133) rfl), rfl⟩
theorem kq_2_134 : Cond.selects "Parserpark$Grammar" yX0_hasRoom yX0_hasRoom ∈ kAL := List.mem_filter.mpr ⟨kin_t2 _ (List.mem_of_getElem? (i := 134) rfl), rfl⟩
theorem kq_2_135 : Cond.code yX0_hasRoom prog_2_method_2_code 1 (some .boolean) ∈ kAL := List.mem_filter.mpr ⟨kin_t2 _ (List.mem_of_getElem? (i := 135) rfl), rfl⟩
theorem kq_2_136 : Cond.classLink "Parserpark" 65 "java/lang/IllegalStateException" ∈ kAL := List.mem_filter.mpr ⟨kin_t2 _ (List.mem_of_getElem? (i := 136) rfl), rfl⟩
theorem kq_2_137 : Cond.instantiable "java/lang/IllegalStateException" 6 ∈ kAL := List.mem_filter.mpr ⟨kin_t2 _ (List.mem_of_getElem? (i := 137) rfl), rfl⟩
theorem kq_2_138 : Cond.castable "java/lang/IllegalStateException" "java/lang/IllegalStateException" ∈ kBL := List.mem_filter.mpr ⟨kin_t2 _ (List.mem_of_getElem? (i := 138) rfl), rfl⟩
theorem kq_2_139 : Cond.selects "java/lang/IllegalStateException" (⟨"java/lang/Throwable", "fillInStackTrace", "(I)Ljava/lang/Throwable;"⟩ : MethodName) (⟨"java/lang/Throwable", "fillInStackTrace", "(I)Ljava/lang/Throwable;"⟩ : MethodName) ∈ kAL := List.mem_filter.mpr ⟨kin_t2 _ (List.mem_of_getElem? (i := 139) rfl), rfl⟩
theorem kq_2_140 : Cond.lays "java/lang/IllegalStateException" "java/lang/Throwable" "cause" "Ljava/lang/Throwable;" ∈ kAL := List.mem_filter.mpr ⟨kin_t2 _ (List.mem_of_getElem? (i := 140) rfl), rfl⟩
theorem kq_2_141 : Cond.lays "java/lang/IllegalStateException" "java/lang/Throwable" "stackTrace" "[Ljava/lang/StackTraceElement;" ∈ kAL := List.mem_filter.mpr ⟨kin_t2 _ (List.mem_of_getElem? (i := 141) rfl), rfl⟩
theorem kq_2_142 : Cond.lays "java/lang/IllegalStateException" "java/lang/Throwable" "suppressedExceptions" "Ljava/util/List;" ∈ kAL := List.mem_filter.mpr ⟨kin_t2 _ (List.mem_of_getElem? (i := 142) rfl), rfl⟩
theorem kq_2_143 : Cond.lays "java/lang/IllegalStateException" "java/lang/Throwable" "detailMessage" "Ljava/lang/String;" ∈ kAL := List.mem_filter.mpr ⟨kin_t2 _ (List.mem_of_getElem? (i := 143) rfl), rfl⟩
theorem kq_2_144 : Cond.lays "java/lang/IllegalStateException" "java/lang/Throwable" "backtrace" "Ljava/lang/Object;" ∈ kAL := List.mem_filter.mpr ⟨kin_t2 _ (List.mem_of_getElem? (i := 144) rfl), rfl⟩
theorem kq_2_145 : Cond.methodLink "Parserpark" 67 (⟨"java/lang/IllegalStateException", "<init>", "()V"⟩ : MethodName) ∈ kAL := List.mem_filter.mpr ⟨kin_t2 _ (List.mem_of_getElem? (i := 145) rfl), rfl⟩
theorem kq_2_146 : Cond.instanceMethod (⟨"java/lang/IllegalStateException", "<init>", "()V"⟩ : MethodName) ∈ kAL := List.mem_filter.mpr ⟨kin_t2 _ (List.mem_of_getElem? (i := 146) rfl), rfl⟩
theorem kq_2_147 : Cond.code (⟨"java/lang/IllegalStateException", "<init>", "()V"⟩ : MethodName) prog_15_method_1_code 1 none ∈ kAL := List.mem_filter.mpr ⟨kin_t2 _ (List.mem_of_getElem? (i := 147) rfl), rfl⟩
theorem kq_2_148 : Cond.methodLink "java/lang/IllegalStateException" 1 (⟨"java/lang/RuntimeException", "<init>", "()V"⟩ : MethodName) ∈ kAL := List.mem_filter.mpr ⟨kin_t2 _ (List.mem_of_getElem? (i := 148) rfl), rfl⟩
theorem kq_2_149 : Cond.lays "java/lang/IllegalStateException" "java/lang/Throwable" "depth" "I" ∈ kAL := List.mem_filter.mpr ⟨kin_t2 _ (List.mem_of_getElem? (i := 149) rfl), rfl⟩
theorem kq_2_150 : Cond.superclass "java/lang/IllegalStateException" "java/lang/RuntimeException" ∈ lw_tbl := kin_t2 _ (List.mem_of_getElem? (i := 150) rfl)
theorem kq_2_151 : Cond.classLink "Parserpark" 68 "Parserpark$Rule" ∈ kAL := List.mem_filter.mpr ⟨kin_t2 _ (List.mem_of_getElem? (i := 151) rfl), rfl⟩
theorem kq_2_152 : Cond.instantiable "Parserpark$Rule" 9 ∈ kAL := List.mem_filter.mpr ⟨kin_t2 _ (List.mem_of_getElem? (i := 152) rfl), rfl⟩
theorem kq_2_153 : Cond.methodLink "Parserpark" 73 yX2_init ∈ kAL := List.mem_filter.mpr ⟨kin_t2 _ (List.mem_of_getElem? (i := 153) rfl), rfl⟩
theorem kq_2_154 : Cond.instanceMethod yX2_init ∈ kAL := List.mem_filter.mpr ⟨kin_t2 _ (List.mem_of_getElem? (i := 154) rfl), rfl⟩
theorem kq_2_155 : Cond.code yX2_init prog_4_method_1_code 6 none ∈ kAL := List.mem_filter.mpr ⟨kin_t2 _ (List.mem_of_getElem? (i := 155) rfl), rfl⟩
theorem kq_2_156 : Cond.methodLink "Parserpark$Rule" 1 (⟨"java/lang/Object", "<init>", "()V"⟩ : MethodName) ∈ kAL := List.mem_filter.mpr ⟨kin_t2 _ (List.mem_of_getElem? (i := 156) rfl), rfl⟩
theorem kq_2_157 : Cond.fieldLink "Parserpark$Rule" 23 "Parserpark$Rule" "number" "I" ∈ kAL := List.mem_filter.mpr ⟨kin_t2 _ (List.mem_of_getElem? (i := 157) rfl), rfl⟩
theorem kq_2_158 : Cond.fieldLink "Parserpark" 84 "Parserpark$Rule" "number" "I" ∈ kAL := List.mem_filter.mpr ⟨kin_t2 _ (List.mem_of_getElem? (i := 158) rfl), rfl⟩
theorem kq_2_159 : Cond.fieldLink "Parserpark$Layout" 92 "Parserpark$Rule" "number" "I" ∈ kAL := List.mem_filter.mpr ⟨kin_t2 _ (List.mem_of_getElem? (i := 159) rfl), rfl⟩
theorem kq_2_160 : Cond.fieldLink "Parserpark$Rule" 26 "Parserpark$Rule" "left" "I" ∈ kAL := List.mem_filter.mpr ⟨kin_t2 _ (List.mem_of_getElem? (i := 160) rfl), rfl⟩
theorem kq_2_161 : Cond.fieldLink "Parserpark$Trial" 44 "Parserpark$Rule" "left" "I" ∈ kAL := List.mem_filter.mpr ⟨kin_t2 _ (List.mem_of_getElem? (i := 161) rfl), rfl⟩
theorem kq_2_162 : Cond.fieldLink "Parserpark$Grammar" 29 "Parserpark$Rule" "left" "I" ∈ kAL := List.mem_filter.mpr ⟨kin_t2 _ (List.mem_of_getElem? (i := 162) rfl), rfl⟩
theorem kq_2_163 : Cond.fieldLink "Parserpark$Spans" 76 "Parserpark$Rule" "left" "I" ∈ kAL := List.mem_filter.mpr ⟨kin_t2 _ (List.mem_of_getElem? (i := 163) rfl), rfl⟩
theorem kq_2_164 : Cond.fieldLink "Parserpark$Rule" 29 "Parserpark$Rule" "first" "I" ∈ kAL := List.mem_filter.mpr ⟨kin_t2 _ (List.mem_of_getElem? (i := 164) rfl), rfl⟩
theorem kq_2_165 : Cond.fieldLink "Parserpark$Trial" 60 "Parserpark$Rule" "first" "I" ∈ kAL := List.mem_filter.mpr ⟨kin_t2 _ (List.mem_of_getElem? (i := 165) rfl), rfl⟩
theorem kq_2_166 : Cond.fieldLink "Parserpark$Layout" 117 "Parserpark$Rule" "first" "I" ∈ kAL := List.mem_filter.mpr ⟨kin_t2 _ (List.mem_of_getElem? (i := 166) rfl), rfl⟩
theorem kq_2_167 : Cond.fieldLink "Parserpark$Spans" 42 "Parserpark$Rule" "first" "I" ∈ kAL := List.mem_filter.mpr ⟨kin_t2 _ (List.mem_of_getElem? (i := 167) rfl), rfl⟩
theorem kq_2_168 : Cond.fieldLink "Parserpark$Rule" 32 "Parserpark$Rule" "second" "I" ∈ kAL := List.mem_filter.mpr ⟨kin_t2 _ (List.mem_of_getElem? (i := 168) rfl), rfl⟩
theorem kq_2_169 : Cond.fieldLink "Parserpark$Trial" 57 "Parserpark$Rule" "second" "I" ∈ kAL := List.mem_filter.mpr ⟨kin_t2 _ (List.mem_of_getElem? (i := 169) rfl), rfl⟩
theorem kq_2_170 : Cond.fieldLink "Parserpark$Layout" 114 "Parserpark$Rule" "second" "I" ∈ kAL := List.mem_filter.mpr ⟨kin_t2 _ (List.mem_of_getElem? (i := 170) rfl), rfl⟩
theorem kq_2_171 : Cond.fieldLink "Parserpark$Spans" 51 "Parserpark$Rule" "second" "I" ∈ kAL := List.mem_filter.mpr ⟨kin_t2 _ (List.mem_of_getElem? (i := 171) rfl), rfl⟩
theorem kq_2_172 : Cond.fieldLink "Parserpark$Rule" 35 "Parserpark$Rule" "third" "I" ∈ kAL := List.mem_filter.mpr ⟨kin_t2 _ (List.mem_of_getElem? (i := 172) rfl), rfl⟩
theorem kq_2_173 : Cond.fieldLink "Parserpark$Trial" 69 "Parserpark$Rule" "third" "I" ∈ kAL := List.mem_filter.mpr ⟨kin_t2 _ (List.mem_of_getElem? (i := 173) rfl), rfl⟩
theorem kq_2_174 : Cond.fieldLink "Parserpark$Layout" 104 "Parserpark$Rule" "third" "I" ∈ kAL := List.mem_filter.mpr ⟨kin_t2 _ (List.mem_of_getElem? (i := 174) rfl), rfl⟩
theorem kq_2_175 : Cond.fieldLink "Parserpark$Spans" 54 "Parserpark$Rule" "third" "I" ∈ kAL := List.mem_filter.mpr ⟨kin_t2 _ (List.mem_of_getElem? (i := 175) rfl), rfl⟩
theorem kq_2_176 : Cond.fieldLink "Parserpark$Rule" 7 "Parserpark$Rule" "rank" "I" ∈ kAL := List.mem_filter.mpr ⟨kin_t2 _ (List.mem_of_getElem? (i := 176) rfl), rfl⟩
theorem kq_2_177 : Cond.fieldLink "Parserpark" 99 "Parserpark$Rule" "rank" "I" ∈ kAL := List.mem_filter.mpr ⟨kin_t2 _ (List.mem_of_getElem? (i := 177) rfl), rfl⟩
theorem kq_2_178 : Cond.fieldLink "Parserpark$Grammar" 32 "Parserpark$Rule" "rank" "I" ∈ kAL := List.mem_filter.mpr ⟨kin_t2 _ (List.mem_of_getElem? (i := 178) rfl), rfl⟩
theorem kq_2_179 : Cond.fieldLink "Parserpark$Rule" 13 "Parserpark$Rule" "colour" "I" ∈ kAL := List.mem_filter.mpr ⟨kin_t2 _ (List.mem_of_getElem? (i := 179) rfl), rfl⟩
theorem kq_2_180 : Cond.fieldLink "Parserpark" 102 "Parserpark$Rule" "colour" "I" ∈ kAL := List.mem_filter.mpr ⟨kin_t2 _ (List.mem_of_getElem? (i := 180) rfl), rfl⟩
theorem kq_2_181 : Cond.fieldLink "Parserpark$Layout" 97 "Parserpark$Rule" "colour" "I" ∈ kAL := List.mem_filter.mpr ⟨kin_t2 _ (List.mem_of_getElem? (i := 181) rfl), rfl⟩
theorem kq_2_182 : Cond.fieldLink "Parserpark$Rule" 16 "Parserpark$Rule" "gap" "I" ∈ kAL := List.mem_filter.mpr ⟨kin_t2 _ (List.mem_of_getElem? (i := 182) rfl), rfl⟩
theorem kq_2_183 : Cond.fieldLink "Parserpark" 105 "Parserpark$Rule" "gap" "I" ∈ kAL := List.mem_filter.mpr ⟨kin_t2 _ (List.mem_of_getElem? (i := 183) rfl), rfl⟩
theorem kq_2_184 : Cond.fieldLink "Parserpark$Layout" 107 "Parserpark$Rule" "gap" "I" ∈ kAL := List.mem_filter.mpr ⟨kin_t2 _ (List.mem_of_getElem? (i := 184) rfl), rfl⟩
theorem kq_2_185 : Cond.fieldLink "Parserpark$Rule" 19 "Parserpark$Rule" "gone" "Z" ∈ kAL := List.mem_filter.mpr ⟨kin_t2 _ (List.mem_of_getElem? (i := 185) rfl), rfl⟩
theorem kq_2_186 : Cond.fieldLink "Parserpark" 91 "Parserpark$Rule" "gone" "Z" ∈ kAL := List.mem_filter.mpr ⟨kin_t2 _ (List.mem_of_getElem? (i := 186) rfl), rfl⟩
theorem kq_2_187 : Cond.fieldLink "Parserpark$Grammar" 21 "Parserpark$Rule" "gone" "Z" ∈ kAL := List.mem_filter.mpr ⟨kin_t2 _ (List.mem_of_getElem? (i := 187) rfl), rfl⟩
theorem kq_2_188 : Cond.laysFinal "Parserpark$Rule" "Parserpark$Rule" "number" "I" ∈ kAL := List.mem_filter.mpr ⟨kin_t2 _ (List.mem_of_getElem? (i := 188) rfl), rfl⟩
theorem kq_2_189 : Cond.soleField "Parserpark$Rule" "number" ∈ lw_tbl := kin_t2 _ (List.mem_of_getElem? (i := 189) rfl)
theorem kq_2_190 : Cond.laysFinal "Parserpark$Rule" "Parserpark$Rule" "left" "I" ∈ kAL := List.mem_filter.mpr ⟨kin_t2 _ (List.mem_of_getElem? (i := 190) rfl), rfl⟩
theorem kq_2_191 : Cond.soleField "Parserpark$Rule" "left" ∈ lw_tbl := kin_t2 _ (List.mem_of_getElem? (i := 191) rfl)
theorem kq_2_192 : Cond.laysFinal "Parserpark$Rule" "Parserpark$Rule" "first" "I" ∈ kAL := List.mem_filter.mpr ⟨kin_t2 _ (List.mem_of_getElem? (i := 192) rfl), rfl⟩
theorem kq_2_193 : Cond.soleField "Parserpark$Rule" "first" ∈ lw_tbl := kin_t2 _ (List.mem_of_getElem? (i := 193) rfl)
theorem kq_2_194 : Cond.laysFinal "Parserpark$Rule" "Parserpark$Rule" "second" "I" ∈ kAL := List.mem_filter.mpr ⟨kin_t2 _ (List.mem_of_getElem? (i := 194) rfl), rfl⟩
theorem kq_2_195 : Cond.soleField "Parserpark$Rule" "second" ∈ lw_tbl := kin_t2 _ (List.mem_of_getElem? (i := 195) rfl)
theorem kq_2_196 : Cond.laysFinal "Parserpark$Rule" "Parserpark$Rule" "third" "I" ∈ kAL := List.mem_filter.mpr ⟨kin_t2 _ (List.mem_of_getElem? (i := 196) rfl), rfl⟩
theorem kq_2_197 : Cond.soleField "Parserpark$Rule" "third" ∈ lw_tbl := kin_t2 _ (List.mem_of_getElem? (i := 197) rfl)
theorem kq_2_198 : Cond.lays "Parserpark$Rule" "Parserpark$Rule" "rank" "I" ∈ kAL := List.mem_filter.mpr ⟨kin_t2 _ (List.mem_of_getElem? (i := 198) rfl), rfl⟩
theorem kq_2_199 : Cond.soleField "Parserpark$Rule" "rank" ∈ lw_tbl := kin_t2 _ (List.mem_of_getElem? (i := 199) rfl)
theorem kq_2_200 : Cond.lays "Parserpark$Rule" "Parserpark$Rule" "colour" "I" ∈ kAL := List.mem_filter.mpr ⟨kin_t2 _ (List.mem_of_getElem? (i := 200) rfl), rfl⟩
theorem kq_2_201 : Cond.soleField "Parserpark$Rule" "colour" ∈ lw_tbl := kin_t2 _ (List.mem_of_getElem? (i := 201) rfl)
theorem kq_2_202 : Cond.lays "Parserpark$Rule" "Parserpark$Rule" "gap" "I" ∈ kAL := List.mem_filter.mpr ⟨kin_t2 _ (List.mem_of_getElem? (i := 202) rfl), rfl⟩
theorem kq_2_203 : Cond.soleField "Parserpark$Rule" "gap" ∈ lw_tbl := kin_t2 _ (List.mem_of_getElem? (i := 203) rfl)
theorem kq_2_204 : Cond.lays "Parserpark$Rule" "Parserpark$Rule" "gone" "Z" ∈ kAL := List.mem_filter.mpr ⟨kin_t2 _ (List.mem_of_getElem? (i := 204) rfl), rfl⟩
theorem kq_2_205 : Cond.soleField "Parserpark$Rule" "gone" ∈ lw_tbl := kin_t2 _ (List.mem_of_getElem? (i := 205) rfl)
theorem kq_2_206 : Cond.superclass "Parserpark$Rule" "java/lang/Object" ∈ lw_tbl := kin_t2 _ (List.mem_of_getElem? (i := 206) rfl)
theorem kq_2_207 : Cond.methodLink "Parserpark" 76 yX0_put ∈ kAL := List.mem_filter.mpr ⟨kin_t2 _ (List.mem_of_getElem? (i := 207) rfl), rfl⟩
theorem kq_2_208 : Cond.instanceMethod yX0_put ∈ kAL := List.mem_filter.mpr ⟨kin_t2 _ (List.mem_of_getElem? (i := 208) rfl), rfl⟩
theorem kq_2_209 : Cond.selects "Parserpark$Grammar" yX0_put yX0_put ∈ kAL := List.mem_filter.mpr ⟨kin_t2 _ (List.mem_of_getElem? (i := 209) rfl), rfl⟩
theorem kq_2_210 : Cond.code yX0_put prog_2_method_3_code 2 none ∈ kAL := List.mem_filter.mpr ⟨kin_t2 _ (List.mem_of_getElem? (i := 210) rfl), rfl⟩
theorem kq_2_211 : Cond.methodLink "Parserpark" 80 yX6_findTouchedBy ∈ kAL := List.mem_filter.mpr ⟨kin_t2 _ (List.mem_of_getElem? (i := 211) rfl), rfl⟩
theorem kq_2_212 : Cond.privateMethod yX6_findTouchedBy ∈ lw_tbl := kin_t2 _ (List.mem_of_getElem? (i := 212) rfl)
theorem kq_2_213 : Cond.instanceMethod yX6_findTouchedBy ∈ kAL := List.mem_filter.mpr ⟨kin_t2 _ (List.mem_of_getElem? (i := 213) rfl), rfl⟩
theorem kq_2_214 : Cond.code yX6_findTouchedBy prog_1_method_42_code 7 (some .int) ∈ kAL := List.mem_filter.mpr ⟨kin_t2 _ (List.mem_of_getElem? (i := 214) rfl), rfl⟩
theorem kq_2_215 : Cond.methodLink "Parserpark" 225 yX3_hasLettersOf ∈ kAL := List.mem_filter.mpr ⟨kin_t2 _ (List.mem_of_getElem? (i := 215) rfl), rfl⟩
theorem kq_2_216 : Cond.instanceMethod yX3_hasLettersOf ∈ kAL := List.mem_filter.mpr ⟨kin_t2 _ (List.mem_of_getElem? (i := 216) rfl), rfl⟩
theorem kq_2_217 : Cond.selects "Parserpark$Spans" yX3_hasLettersOf yX3_hasLettersOf ∈ kAL := List.mem_filter.mpr ⟨kin_t2 _ (List.mem_of_getElem? (i := 217) rfl), rfl⟩
theorem kq_2_218 : Cond.code yX3_hasLettersOf prog_5_method_8_code 2 (some .boolean) ∈ kAL := List.mem_filter.mpr ⟨kin_t2 _ (List.mem_of_getElem? (i := 218) rfl), rfl⟩
theorem kq_2_219 : Cond.methodLink "Parserpark$Spans" 47 yX3_hasIfLetter ∈ kAL := List.mem_filter.mpr ⟨kin_t2 _ (List.mem_of_getElem? (i := 219) rfl), rfl⟩
theorem kq_2_220 : Cond.privateMethod yX3_hasIfLetter ∈ lw_tbl := kin_t2 _ (List.mem_of_getElem? (i := 220) rfl)
theorem kq_2_221 : Cond.instanceMethod yX3_hasIfLetter ∈ kAL := List.mem_filter.mpr ⟨kin_t2 _ (List.mem_of_getElem? (i := 221) rfl), rfl⟩
theorem kq_2_222 : Cond.code yX3_hasIfLetter prog_5_method_9_code 3 (some .boolean) ∈ kAL := List.mem_filter.mpr ⟨kin_t2 _ (List.mem_of_getElem? (i := 222) rfl), rfl⟩
theorem kq_2_223 : Cond.methodLinkNest "Parserpark$Spans" 57 yX6_isLetter "Parserpark" ∈ kBL := List.mem_filter.mpr ⟨kin_t2 _ (List.mem_of_getElem? (i := 223) rfl), rfl⟩
theorem kq_2_224 : Cond.methodLink "ParserparkLaw" 118 yL_dropRule ∈ kAL := List.mem_filter.mpr ⟨kin_t2 _ (List.mem_of_getElem? (i := 224) rfl), rfl⟩
theorem kq_2_225 : Cond.static yL_dropRule ∈ kAL := List.mem_filter.mpr ⟨kin_t2 _ (List.mem_of_getElem? (i := 225) rfl), rfl⟩
theorem kq_2_226 : Cond.codeWith yL_dropRule method_4_code 4 (some .int) [(0, 9, 12, 21)] ∈ kAL := List.mem_filter.mpr ⟨kin_t2 _ (List.mem_of_getElem? (i := 226) rfl), rfl⟩
theorem kq_2_227 : Cond.classLink "ParserparkLaw" 21 "java/util/NoSuchElementException" ∈ kAL := List.mem_filter.mpr ⟨kin_t2 _ (List.mem_of_getElem? (i := 227) rfl), rfl⟩
theorem kq_2_228 : Cond.methodLink "ParserparkLaw" 17 yX6_dropRule ∈ kAL := List.mem_filter.mpr ⟨kin_t2 _ (List.mem_of_getElem? (i := 228) rfl), rfl⟩
theorem kq_2_229 : Cond.instanceMethod yX6_dropRule ∈ kAL := List.mem_filter.mpr ⟨kin_t2 _ (List.mem_of_getElem? (i := 229) rfl), rfl⟩
theorem kq_2_230 : Cond.selects "Parserpark" yX6_dropRule yX6_dropRule ∈ kAL := List.mem_filter.mpr ⟨kin_t2 _ (List.mem_of_getElem? (i := 230) rfl), rfl⟩
theorem kq_2_231 : Cond.code yX6_dropRule prog_1_method_3_code 3 (some .int) ∈ kAL := List.mem_filter.mpr ⟨kin_t2 _ (List.mem_of_getElem? (i := 231) rfl), rfl⟩
theorem kq_2_232 : Cond.methodLink "Parserpark" 87 yX6_existingRule ∈ kAL := List.mem_filter.mpr ⟨kin_t2 _ (List.mem_of_getElem? (i := 232) rfl), rfl⟩
theorem kq_2_233 : Cond.privateMethod yX6_existingRule ∈ lw_tbl := kin_t2 _ (List.mem_of_getElem? (i := 233) rfl)
theorem kq_2_234 : Cond.instanceMethod yX6_existingRule ∈ kAL := List.mem_filter.mpr ⟨kin_t2 _ (List.mem_of_getElem? (i := 234) rfl), rfl⟩
theorem kq_2_235 : Cond.code yX6_existingRule prog_1_method_39_code 3 (some (.object "Parserpark$Rule")) ∈ kAL := List.mem_filter.mpr ⟨kin_t2 _ (List.mem_of_getElem? (i := 235) rfl), rfl⟩
theorem kq_2_236 : Cond.methodLink "Parserpark" 222 yX0_liveRule ∈ kAL := List.mem_filter.mpr ⟨kin_t2 _ (List.mem_of_getElem? (i := 236) rfl), rfl⟩
theorem kq_2_237 : Cond.classLink "Parserpark" 168 "java/util/NoSuchElementException" ∈ kAL := List.mem_filter.mpr ⟨kin_t2 _ (List.mem_of_getElem? (i := 237) rfl), rfl⟩
theorem kq_2_238 : Cond.instantiable "java/util/NoSuchElementException" 6 ∈ kAL := List.mem_filter.mpr ⟨kin_t2 _ (List.mem_of_getElem? (i := 238) rfl), rfl⟩
theorem kq_2_239 : Cond.castable "java/util/NoSuchElementException" "java/util/NoSuchElementException" ∈ kBL := List.mem_filter.mpr ⟨kin_t2 _ (List.mem_of_getElem? (i := 239) rfl), rfl⟩
theorem kq_3_0 : Cond.selects "java/util/NoSuchElementException" (⟨"java/lang/Throwable", "fillInStackTrace", "(I)Ljava/lang/Throwable;"⟩ : MethodName) (⟨"java/lang/Throwable", "fillInStackTrace", "(I)Ljava/lang/Throwable;"⟩ : MethodName) ∈ kAL := List.mem_filter.mpr ⟨kin_t3 _ (List.mem_of_getElem? (i := 0) rfl), rfl⟩
theorem kq_3_1 : Cond.lays "java/util/NoSuchElementException" "java/lang/Throwable" "cause" "Ljava/lang/Throwable;" ∈ kAL := List.mem_filter.mpr ⟨kin_t3 _ (List.mem_of_getElem? (i := 1) rfl), rfl⟩
theorem kq_3_2 : Cond.lays "java/util/NoSuchElementException" "java/lang/Throwable" "stackTrace" "[Ljava/lang/StackTraceElement;" ∈ kAL := List.mem_filter.mpr ⟨kin_t3 _ (List.mem_of_getElem? (i := 2) rfl), rfl⟩
theorem kq_3_3 : Cond.lays "java/util/NoSuchElementException" "java/lang/Throwable" "suppressedExceptions" "Ljava/util/List;" ∈ kAL := List.mem_filter.mpr ⟨kin_t3 _ (List.mem_of_getElem? (i := 3) rfl), rfl⟩
theorem kq_3_4 : Cond.lays "java/util/NoSuchElementException" "java/lang/Throwable" "detailMessage" "Ljava/lang/String;" ∈ kAL := List.mem_filter.mpr ⟨kin_t3 _ (List.mem_of_getElem? (i := 4) rfl), rfl⟩
theorem kq_3_5 : Cond.lays "java/util/NoSuchElementException" "java/lang/Throwable" "backtrace" "Ljava/lang/Object;" ∈ kAL := List.mem_filter.mpr ⟨kin_t3 _ (List.mem_of_getElem? (i := 5) rfl), rfl⟩
theorem kq_3_6 : Cond.methodLink "Parserpark" 170 (⟨"java/util/NoSuchElementException", "<init>", "()V"⟩ : MethodName) ∈ kAL := List.mem_filter.mpr ⟨kin_t3 _ (List.mem_of_getElem? (i := 6) rfl), rfl⟩
theorem kq_3_7 : Cond.instanceMethod (⟨"java/util/NoSuchElementException", "<init>", "()V"⟩ : MethodName) ∈ kAL := List.mem_filter.mpr ⟨kin_t3 _ (List.mem_of_getElem? (i := 7) rfl), rfl⟩
theorem kq_3_8 : Cond.code (⟨"java/util/NoSuchElementException", "<init>", "()V"⟩ : MethodName) prog_23_method_1_code 1 none ∈ kAL := List.mem_filter.mpr ⟨kin_t3 _ (List.mem_of_getElem? (i := 8) rfl), rfl⟩
theorem kq_3_9 : Cond.methodLink "java/util/NoSuchElementException" 1 (⟨"java/lang/RuntimeException", "<init>", "()V"⟩ : MethodName) ∈ kAL := List.mem_filter.mpr ⟨kin_t3 _ (List.mem_of_getElem? (i := 9) rfl), rfl⟩
theorem kq_3_10 : Cond.lays "java/util/NoSuchElementException" "java/lang/Throwable" "depth" "I" ∈ kAL := List.mem_filter.mpr ⟨kin_t3 _ (List.mem_of_getElem? (i := 10) rfl), rfl⟩
theorem kq_3_11 : Cond.superclass "java/util/NoSuchElementException" "java/lang/RuntimeException" ∈ lw_tbl := kin_t3 _ (List.mem_of_getElem? (i := 11) rfl)
theorem kq_3_12 : Cond.methodLink "ParserparkLaw" 122 yL_setRank ∈ kAL := List.mem_filter.mpr ⟨kin_t3 _ (List.mem_of_getElem? (i := 12) rfl), rfl⟩
theorem kq_3_13 : Cond.static yL_setRank ∈ kAL := List.mem_filter.mpr ⟨kin_t3 _ (List.mem_of_getElem? (i := 13) rfl), rfl⟩
theorem kq_3_14 : Cond.codeWith yL_setRank method_5_code 5 (some .int) [(0, 10, 13, 21), (0, 10, 17, 13)] ∈ kAL := List.mem_filter.mpr ⟨kin_t3 _ (List.mem_of_getElem? (i := 14) rfl), rfl⟩
theorem kq_3_15 : Cond.methodLink "ParserparkLaw" 23 yX6_setRank ∈ kAL := List.mem_filter.mpr ⟨kin_t3 _ (List.mem_of_getElem? (i := 15) rfl), rfl⟩
theorem kq_3_16 : Cond.instanceMethod yX6_setRank ∈ kAL := List.mem_filter.mpr ⟨kin_t3 _ (List.mem_of_getElem? (i := 16) rfl), rfl⟩
theorem kq_3_17 : Cond.selects "Parserpark" yX6_setRank yX6_setRank ∈ kAL := List.mem_filter.mpr ⟨kin_t3 _ (List.mem_of_getElem? (i := 17) rfl), rfl⟩
theorem kq_3_18 : Cond.code yX6_setRank prog_1_method_4_code 5 (some .int) ∈ kAL := List.mem_filter.mpr ⟨kin_t3 _ (List.mem_of_getElem? (i := 18) rfl), rfl⟩
theorem kq_3_19 : Cond.methodLink "Parserpark" 95 yX6_isWithin ∈ kAL := List.mem_filter.mpr ⟨kin_t3 _ (List.mem_of_getElem? (i := 19) rfl), rfl⟩
theorem kq_3_20 : Cond.static yX6_isWithin ∈ kAL := List.mem_filter.mpr ⟨kin_t3 _ (List.mem_of_getElem? (i := 20) rfl), rfl⟩
theorem kq_3_21 : Cond.code yX6_isWithin prog_1_method_30_code 3 (some .boolean) ∈ kAL := List.mem_filter.mpr ⟨kin_t3 _ (List.mem_of_getElem? (i := 21) rfl), rfl⟩
theorem kq_3_22 : Cond.methodLink "ParserparkLaw" 126 yL_setStyle ∈ kAL := List.mem_filter.mpr ⟨kin_t3 _ (List.mem_of_getElem? (i := 22) rfl), rfl⟩
theorem kq_3_23 : Cond.static yL_setStyle ∈ kAL := List.mem_filter.mpr ⟨kin_t3 _ (List.mem_of_getElem? (i := 23) rfl), rfl⟩
theorem kq_3_24 : Cond.codeWith yL_setStyle method_6_code 6 (some .int) [(0, 12, 15, 21), (0, 12, 19, 13)] ∈ kAL := List.mem_filter.mpr ⟨kin_t3 _ (List.mem_of_getElem? (i := 24) rfl), rfl⟩
theorem kq_3_25 : Cond.methodLink "ParserparkLaw" 27 yX6_setStyle ∈ kAL := List.mem_filter.mpr ⟨kin_t3 _ (List.mem_of_getElem? (i := 25) rfl), rfl⟩
theorem kq_3_26 : Cond.instanceMethod yX6_setStyle ∈ kAL := List.mem_filter.mpr ⟨kin_t3 _ (List.mem_of_getElem? (i := 26) rfl), rfl⟩
theorem kq_3_27 : Cond.selects "Parserpark" yX6_setStyle yX6_setStyle ∈ kAL := List.mem_filter.mpr ⟨kin_t3 _ (List.mem_of_getElem? (i := 27) rfl), rfl⟩
theorem kq_3_28 : Cond.code yX6_setStyle prog_1_method_5_code 6 (some .int) ∈ kAL := List.mem_filter.mpr ⟨kin_t3 _ (List.mem_of_getElem? (i := 28) rfl), rfl⟩
theorem kq_3_29 : Cond.methodLink "ParserparkLaw" 134 yL_addText ∈ kAL := List.mem_filter.mpr ⟨kin_t3 _ (List.mem_of_getElem? (i := 29) rfl), rfl⟩
theorem kq_3_30 : Cond.static yL_addText ∈ kAL := List.mem_filter.mpr ⟨kin_t3 _ (List.mem_of_getElem? (i := 30) rfl), rfl⟩
theorem kq_3_31 : Cond.codeWith yL_addText method_7_code 4 (some .int) [(0, 9, 12, 13), (0, 9, 15, 15)] ∈ kAL := List.mem_filter.mpr ⟨kin_t3 _ (List.mem_of_getElem? (i := 31) rfl), rfl⟩
theorem kq_3_32 : Cond.methodLink "ParserparkLaw" 31 yX6_addText ∈ kAL := List.mem_filter.mpr ⟨kin_t3 _ (List.mem_of_getElem? (i := 32) rfl), rfl⟩
theorem kq_3_33 : Cond.instanceMethod yX6_addText ∈ kAL := List.mem_filter.mpr ⟨kin_t3 _ (List.mem_of_getElem? (i := 33) rfl), rfl⟩
theorem kq_3_34 : Cond.selects "Parserpark" yX6_addText yX6_addText ∈ kAL := List.mem_filter.mpr ⟨kin_t3 _ (List.mem_of_getElem? (i := 34) rfl), rfl⟩
theorem kq_3_35 : Cond.code yX6_addText prog_1_method_7_code 4 (some .int) ∈ kAL := List.mem_filter.mpr ⟨kin_t3 _ (List.mem_of_getElem? (i := 35) rfl), rfl⟩
theorem kq_3_36 : Cond.methodLink "Parserpark" 112 yX6_requireLetter ∈ kAL := List.mem_filter.mpr ⟨kin_t3 _ (List.mem_of_getElem? (i := 36) rfl), rfl⟩
theorem kq_3_37 : Cond.static yX6_requireLetter ∈ kAL := List.mem_filter.mpr ⟨kin_t3 _ (List.mem_of_getElem? (i := 37) rfl), rfl⟩
theorem kq_3_38 : Cond.code yX6_requireLetter prog_1_method_37_code 1 none ∈ kAL := List.mem_filter.mpr ⟨kin_t3 _ (List.mem_of_getElem? (i := 38) rfl), rfl⟩
theorem kq_3_39 : Cond.instantiable "Parserpark$Text" 3 ∈ kAL := List.mem_filter.mpr ⟨kin_t3 _ (List.mem_of_getElem? (i := 39) rfl), rfl⟩
theorem kq_3_40 : Cond.methodLinkNest "Parserpark" 116 yX4_init "Parserpark" ∈ kBL := List.mem_filter.mpr ⟨kin_t3 _ (List.mem_of_getElem? (i := 40) rfl), rfl⟩
theorem kq_3_41 : Cond.instanceMethod yX4_init ∈ kAL := List.mem_filter.mpr ⟨kin_t3 _ (List.mem_of_getElem? (i := 41) rfl), rfl⟩
theorem kq_3_42 : Cond.code yX4_init prog_6_method_1_code 1 none ∈ kAL := List.mem_filter.mpr ⟨kin_t3 _ (List.mem_of_getElem? (i := 42) rfl), rfl⟩
theorem kq_3_43 : Cond.methodLink "Parserpark$Text" 3 (⟨"java/lang/Object", "<init>", "()V"⟩ : MethodName) ∈ kAL := List.mem_filter.mpr ⟨kin_t3 _ (List.mem_of_getElem? (i := 43) rfl), rfl⟩
theorem kq_3_44 : Cond.classLink "Parserpark$Text" 9 "Parserpark$Spans" ∈ kAL := List.mem_filter.mpr ⟨kin_t3 _ (List.mem_of_getElem? (i := 44) rfl), rfl⟩
theorem kq_3_45 : Cond.methodLinkNest "Parserpark$Text" 11 yX3_init "Parserpark" ∈ kBL := List.mem_filter.mpr ⟨kin_t3 _ (List.mem_of_getElem? (i := 45) rfl), rfl⟩
theorem kq_3_46 : Cond.fieldLink "Parserpark$Text" 12 "Parserpark$Text" "spans" "LParserpark$Spans;" ∈ kAL := List.mem_filter.mpr ⟨kin_t3 _ (List.mem_of_getElem? (i := 46) rfl), rfl⟩
theorem kq_3_47 : Cond.fieldLink "Parserpark" 117 "Parserpark$Text" "spans" "LParserpark$Spans;" ∈ kAL := List.mem_filter.mpr ⟨kin_t3 _ (List.mem_of_getElem? (i := 47) rfl), rfl⟩
theorem kq_3_48 : Cond.fieldLink "Parserpark$Text" 18 "Parserpark$Text" "accepted" "[I" ∈ kAL := List.mem_filter.mpr ⟨kin_t3 _ (List.mem_of_getElem? (i := 48) rfl), rfl⟩
theorem kq_3_49 : Cond.fieldLink "Parserpark$Text" 22 "Parserpark$Text" "acceptedCount" "I" ∈ kAL := List.mem_filter.mpr ⟨kin_t3 _ (List.mem_of_getElem? (i := 49) rfl), rfl⟩
theorem kq_3_50 : Cond.fieldLink "Parserpark" 233 "Parserpark$Text" "acceptedCount" "I" ∈ kAL := List.mem_filter.mpr ⟨kin_t3 _ (List.mem_of_getElem? (i := 50) rfl), rfl⟩
theorem kq_3_51 : Cond.laysFinal "Parserpark$Text" "Parserpark$Text" "spans" "LParserpark$Spans;" ∈ kAL := List.mem_filter.mpr ⟨kin_t3 _ (List.mem_of_getElem? (i := 51) rfl), rfl⟩
theorem kq_3_52 : Cond.soleField "Parserpark$Text" "spans" ∈ lw_tbl := kin_t3 _ (List.mem_of_getElem? (i := 52) rfl)
theorem kq_3_53 : Cond.laysFinal "Parserpark$Text" "Parserpark$Text" "accepted" "[I" ∈ kAL := List.mem_filter.mpr ⟨kin_t3 _ (List.mem_of_getElem? (i := 53) rfl), rfl⟩
theorem kq_3_54 : Cond.soleField "Parserpark$Text" "accepted" ∈ lw_tbl := kin_t3 _ (List.mem_of_getElem? (i := 54) rfl)
theorem kq_3_55 : Cond.lays "Parserpark$Text" "Parserpark$Text" "acceptedCount" "I" ∈ kAL := List.mem_filter.mpr ⟨kin_t3 _ (List.mem_of_getElem? (i := 55) rfl), rfl⟩
theorem kq_3_56 : Cond.soleField "Parserpark$Text" "acceptedCount" ∈ lw_tbl := kin_t3 _ (List.mem_of_getElem? (i := 56) rfl)
theorem kq_3_57 : Cond.superclass "Parserpark$Text" "java/lang/Object" ∈ lw_tbl := kin_t3 _ (List.mem_of_getElem? (i := 57) rfl)
theorem kq_3_58 : Cond.methodLink "Parserpark" 120 yX3_append ∈ kAL := List.mem_filter.mpr ⟨kin_t3 _ (List.mem_of_getElem? (i := 58) rfl), rfl⟩
theorem kq_3_59 : Cond.instanceMethod yX3_append ∈ kAL := List.mem_filter.mpr ⟨kin_t3 _ (List.mem_of_getElem? (i := 59) rfl), rfl⟩
theorem kq_3_60 : Cond.selects "Parserpark$Spans" yX3_append yX3_append ∈ kAL := List.mem_filter.mpr ⟨kin_t3 _ (List.mem_of_getElem? (i := 60) rfl), rfl⟩
theorem kq_3_61 : Cond.code yX3_append prog_5_method_4_code 2 none ∈ kAL := List.mem_filter.mpr ⟨kin_t3 _ (List.mem_of_getElem? (i := 61) rfl), rfl⟩
theorem kq_3_62 : Cond.methodLink "Parserpark" 123 yX3_findHaving ∈ kAL := List.mem_filter.mpr ⟨kin_t3 _ (List.mem_of_getElem? (i := 62) rfl), rfl⟩
theorem kq_3_63 : Cond.instanceMethod yX3_findHaving ∈ kAL := List.mem_filter.mpr ⟨kin_t3 _ (List.mem_of_getElem? (i := 63) rfl), rfl⟩
theorem kq_3_64 : Cond.selects "Parserpark$Spans" yX3_findHaving yX3_findHaving ∈ kAL := List.mem_filter.mpr ⟨kin_t3 _ (List.mem_of_getElem? (i := 64) rfl), rfl⟩
theorem kq_3_65 : Cond.code yX3_findHaving prog_5_method_11_code 7 (some .int) ∈ kAL := List.mem_filter.mpr ⟨kin_t3 _ (List.mem_of_getElem? (i := 65) rfl), rfl⟩
theorem kq_3_66 : Cond.methodLink "Parserpark$Spans" 30 yJ9_min_7cf53 ∈ kAL := List.mem_filter.mpr ⟨kin_t3 _ (List.mem_of_getElem? (i := 66) rfl), rfl⟩
theorem kq_3_67 : Cond.static yJ9_min_7cf53 ∈ kAL := List.mem_filter.mpr ⟨kin_t3 _ (List.mem_of_getElem? (i := 67) rfl), rfl⟩
theorem kq_3_68 : Cond.code yJ9_min_7cf53 prog_17_method_69_code 2 (some .int) ∈ kAL := List.mem_filter.mpr ⟨kin_t3 _ (List.mem_of_getElem? (i := 68) rfl), rfl⟩
theorem kq_3_69 : Cond.methodLink "Parserpark$Spans" 64 yJ9_max_7cf53 ∈ kAL := List.mem_filter.mpr ⟨kin_t3 _ (List.mem_of_getElem? (i := 69) rfl), rfl⟩
theorem kq_3_70 : Cond.methodLink "ParserparkLaw" 137 yL_addLetter ∈ kAL := List.mem_filter.mpr ⟨kin_t3 _ (List.mem_of_getElem? (i := 70) rfl), rfl⟩
theorem kq_3_71 : Cond.static yL_addLetter ∈ kAL := List.mem_filter.mpr ⟨kin_t3 _ (List.mem_of_getElem? (i := 71) rfl), rfl⟩
theorem kq_3_72 : Cond.codeWith yL_addLetter method_8_code 5 (some .int) [(0, 10, 13, 37), (0, 10, 17, 13), (0, 10, 21, 15)] ∈ kAL := List.mem_filter.mpr ⟨kin_t3 _ (List.mem_of_getElem? (i := 72) rfl), rfl⟩
theorem kq_3_73 : Cond.classLink "ParserparkLaw" 37 "java/lang/IndexOutOfBoundsException" ∈ kAL := List.mem_filter.mpr ⟨kin_t3 _ (List.mem_of_getElem? (i := 73) rfl), rfl⟩
theorem kq_3_74 : Cond.instantiable "java/lang/ArrayIndexOutOfBoundsException" 6 ∈ kAL := List.mem_filter.mpr ⟨kin_t3 _ (List.mem_of_getElem? (i := 74) rfl), rfl⟩
theorem kq_3_75 : Cond.instanceMethod yJx00060_init_a7421 ∈ kAL := List.mem_filter.mpr ⟨kin_t3 _ (List.mem_of_getElem? (i := 75) rfl), rfl⟩
theorem kq_3_76 : Cond.code yJx00060_init_a7421 prog_12_method_2_code 2 none ∈ kAL := List.mem_filter.mpr ⟨kin_t3 _ (List.mem_of_getElem? (i := 76) rfl), rfl⟩
theorem kq_3_77 : Cond.methodLink "java/lang/ArrayIndexOutOfBoundsException" 7 (⟨"java/lang/IndexOutOfBoundsException", "<init>", "(Ljava/lang/String;)V"⟩ : MethodName) ∈ kAL := List.mem_filter.mpr ⟨kin_t3 _ (List.mem_of_getElem? (i := 77) rfl), rfl⟩
theorem kq_3_78 : Cond.instanceMethod (⟨"java/lang/IndexOutOfBoundsException", "<init>", "(Ljava/lang/String;)V"⟩ : MethodName) ∈ kAL := List.mem_filter.mpr ⟨kin_t3 _ (List.mem_of_getElem? (i := 78) rfl), rfl⟩
theorem kq_3_79 : Cond.code (⟨"java/lang/IndexOutOfBoundsException", "<init>", "(Ljava/lang/String;)V"⟩ : MethodName) prog_16_method_2_code 2 none ∈ kAL := List.mem_filter.mpr ⟨kin_t3 _ (List.mem_of_getElem? (i := 79) rfl), rfl⟩
theorem kq_3_80 : Cond.methodLink "java/lang/IndexOutOfBoundsException" 7 (⟨"java/lang/RuntimeException", "<init>", "(Ljava/lang/String;)V"⟩ : MethodName) ∈ kAL := List.mem_filter.mpr ⟨kin_t3 _ (List.mem_of_getElem? (i := 80) rfl), rfl⟩
theorem kq_3_81 : Cond.instanceMethod (⟨"java/lang/RuntimeException", "<init>", "(Ljava/lang/String;)V"⟩ : MethodName) ∈ kAL := List.mem_filter.mpr ⟨kin_t3 _ (List.mem_of_getElem? (i := 81) rfl), rfl⟩
theorem kq_3_82 : Cond.code (⟨"java/lang/RuntimeException", "<init>", "(Ljava/lang/String;)V"⟩ : MethodName) prog_18_method_2_code 2 none ∈ kAL := List.mem_filter.mpr ⟨kin_t3 _ (List.mem_of_getElem? (i := 82) rfl), rfl⟩
theorem kq_3_83 : Cond.methodLink "java/lang/RuntimeException" 7 (⟨"java/lang/Exception", "<init>", "(Ljava/lang/String;)V"⟩ : MethodName) ∈ kAL := List.mem_filter.mpr ⟨kin_t3 _ (List.mem_of_getElem? (i := 83) rfl), rfl⟩
theorem kq_3_84 : Cond.instanceMethod (⟨"java/lang/Exception", "<init>", "(Ljava/lang/String;)V"⟩ : MethodName) ∈ kAL := List.mem_filter.mpr ⟨kin_t3 _ (List.mem_of_getElem? (i := 84) rfl), rfl⟩
theorem kq_3_85 : Cond.code (⟨"java/lang/Exception", "<init>", "(Ljava/lang/String;)V"⟩ : MethodName) prog_13_method_2_code 2 none ∈ kAL := List.mem_filter.mpr ⟨kin_t3 _ (List.mem_of_getElem? (i := 85) rfl), rfl⟩
theorem kq_3_86 : Cond.methodLink "java/lang/Exception" 7 (⟨"java/lang/Throwable", "<init>", "(Ljava/lang/String;)V"⟩ : MethodName) ∈ kAL := List.mem_filter.mpr ⟨kin_t3 _ (List.mem_of_getElem? (i := 86) rfl), rfl⟩
theorem kq_3_87 : Cond.instanceMethod (⟨"java/lang/Throwable", "<init>", "(Ljava/lang/String;)V"⟩ : MethodName) ∈ kAL := List.mem_filter.mpr ⟨kin_t3 _ (List.mem_of_getElem? (i := 87) rfl), rfl⟩
theorem kq_3_88 : Cond.code (⟨"java/lang/Throwable", "<init>", "(Ljava/lang/String;)V"⟩ : MethodName) prog_20_method_2_code 2 none ∈ kAL := List.mem_filter.mpr ⟨kin_t3 _ (List.mem_of_getElem? (i := 88) rfl), rfl⟩
theorem kq_3_89 : Cond.lays "java/lang/ArrayIndexOutOfBoundsException" "java/lang/Throwable" "backtrace" "Ljava/lang/Object;" ∈ kAL := List.mem_filter.mpr ⟨kin_t3 _ (List.mem_of_getElem? (i := 89) rfl), rfl⟩
theorem kq_3_90 : Cond.lays "java/lang/ArrayIndexOutOfBoundsException" "java/lang/Throwable" "detailMessage" "Ljava/lang/String;" ∈ kAL := List.mem_filter.mpr ⟨kin_t3 _ (List.mem_of_getElem? (i := 90) rfl), rfl⟩
theorem kq_3_91 : Cond.lays "java/lang/ArrayIndexOutOfBoundsException" "java/lang/Throwable" "cause" "Ljava/lang/Throwable;" ∈ kAL := List.mem_filter.mpr ⟨kin_t3 _ (List.mem_of_getElem? (i := 91) rfl), rfl⟩
theorem kq_3_92 : Cond.lays "java/lang/ArrayIndexOutOfBoundsException" "java/lang/Throwable" "stackTrace" "[Ljava/lang/StackTraceElement;" ∈ kAL := List.mem_filter.mpr ⟨kin_t3 _ (List.mem_of_getElem? (i := 92) rfl), rfl⟩
theorem kq_3_93 : Cond.lays "java/lang/ArrayIndexOutOfBoundsException" "java/lang/Throwable" "depth" "I" ∈ kAL := List.mem_filter.mpr ⟨kin_t3 _ (List.mem_of_getElem? (i := 93) rfl), rfl⟩
theorem kq_3_94 : Cond.lays "java/lang/ArrayIndexOutOfBoundsException" "java/lang/Throwable" "suppressedExceptions" "Ljava/util/List;" ∈ kAL := List.mem_filter.mpr ⟨kin_t3 _ (List.mem_of_getElem? (i := 94) rfl), rfl⟩
theorem kq_3_95 : Cond.superclass "java/lang/ArrayIndexOutOfBoundsException" "java/lang/IndexOutOfBoundsException" ∈ lw_tbl := kin_t3 _ (List.mem_of_getElem? (i := 95) rfl)
theorem kq_3_96 : Cond.castable "java/lang/ArrayIndexOutOfBoundsException" "java/lang/ArrayIndexOutOfBoundsException" ∈ kBL := List.mem_filter.mpr ⟨kin_t3 _ (List.mem_of_getElem? (i := 96) rfl), rfl⟩
theorem kq_3_97 : Cond.declares (⟨"java/lang/IndexOutOfBoundsException", "<init>", "()V"⟩ : MethodName) ∈ kBL := List.mem_filter.mpr ⟨kin_t3 _ (List.mem_of_getElem? (i := 97) rfl), rfl⟩
theorem kq_3_98 : Cond.declares (⟨"java/lang/IndexOutOfBoundsException", "<init>", "(Ljava/lang/String;)V"⟩ : MethodName) ∈ kBL := List.mem_filter.mpr ⟨kin_t3 _ (List.mem_of_getElem? (i := 98) rfl), rfl⟩
theorem kq_3_99 : Cond.selects "java/lang/ArrayIndexOutOfBoundsException" (⟨"java/lang/Throwable", "fillInStackTrace", "(I)Ljava/lang/Throwable;"⟩ : MethodName) (⟨"java/lang/Throwable", "fillInStackTrace", "(I)Ljava/lang/Throwable;"⟩ : MethodName) ∈ kAL := List.mem_filter.mpr ⟨kin_t3 _ (List.mem_of_getElem? (i := 99) rfl), rfl⟩
theorem kq_3_100 : Cond.instantiable "java/lang/String" 4 ∈ kAL := List.mem_filter.mpr ⟨kin_t3 _ (List.mem_of_getElem? (i := 100) rfl), rfl⟩
theorem kq_3_101 : Cond.arrayClass .byte ∈ kAL := List.mem_filter.mpr ⟨kin_t3 _ (List.mem_of_getElem? (i := 101) rfl), rfl⟩
theorem kq_3_102 : Cond.laysFinal "java/lang/String" "java/lang/String" "value" "[B" ∈ kAL := List.mem_filter.mpr ⟨kin_t3 _ (List.mem_of_getElem? (i := 102) rfl), rfl⟩
theorem kq_3_103 : Cond.soleField "java/lang/String" "value" ∈ lw_tbl := kin_t3 _ (List.mem_of_getElem? (i := 103) rfl)
theorem kq_3_104 : Cond.laysFinal "java/lang/String" "java/lang/String" "coder" "B" ∈ kAL := List.mem_filter.mpr ⟨kin_t3 _ (List.mem_of_getElem? (i := 104) rfl), rfl⟩
theorem kq_3_105 : Cond.soleField "java/lang/String" "coder" ∈ lw_tbl := kin_t3 _ (List.mem_of_getElem? (i := 105) rfl)
theorem kq_3_106 : Cond.methodLink "ParserparkLaw" 34 yX6_addLetter ∈ kAL := List.mem_filter.mpr ⟨kin_t3 _ (List.mem_of_getElem? (i := 106) rfl), rfl⟩
theorem kq_3_107 : Cond.instanceMethod yX6_addLetter ∈ kAL := List.mem_filter.mpr ⟨kin_t3 _ (List.mem_of_getElem? (i := 107) rfl), rfl⟩
theorem kq_3_108 : Cond.selects "Parserpark" yX6_addLetter yX6_addLetter ∈ kAL := List.mem_filter.mpr ⟨kin_t3 _ (List.mem_of_getElem? (i := 108) rfl), rfl⟩
theorem kq_3_109 : Cond.code yX6_addLetter prog_1_method_8_code 4 (some .int) ∈ kAL := List.mem_filter.mpr ⟨kin_t3 _ (List.mem_of_getElem? (i := 109) rfl), rfl⟩
theorem kq_3_110 : Cond.methodLink "Parserpark" 127 yX6_existingText ∈ kAL := List.mem_filter.mpr ⟨kin_t3 _ (List.mem_of_getElem? (i := 110) rfl), rfl⟩
theorem kq_3_111 : Cond.privateMethod yX6_existingText ∈ lw_tbl := kin_t3 _ (List.mem_of_getElem? (i := 111) rfl)
theorem kq_3_112 : Cond.instanceMethod yX6_existingText ∈ kAL := List.mem_filter.mpr ⟨kin_t3 _ (List.mem_of_getElem? (i := 112) rfl), rfl⟩
theorem kq_3_113 : Cond.code yX6_existingText prog_1_method_40_code 3 (some (.object "Parserpark$Text")) ∈ kAL := List.mem_filter.mpr ⟨kin_t3 _ (List.mem_of_getElem? (i := 113) rfl), rfl⟩
theorem kq_3_114 : Cond.classLink "Parserpark" 219 "java/lang/IndexOutOfBoundsException" ∈ kAL := List.mem_filter.mpr ⟨kin_t3 _ (List.mem_of_getElem? (i := 114) rfl), rfl⟩
theorem kq_3_115 : Cond.instantiable "java/lang/IndexOutOfBoundsException" 6 ∈ kAL := List.mem_filter.mpr ⟨kin_t3 _ (List.mem_of_getElem? (i := 115) rfl), rfl⟩
theorem kq_3_116 : Cond.castable "java/lang/IndexOutOfBoundsException" "java/lang/IndexOutOfBoundsException" ∈ kBL := List.mem_filter.mpr ⟨kin_t3 _ (List.mem_of_getElem? (i := 116) rfl), rfl⟩
theorem kq_3_117 : Cond.selects "java/lang/IndexOutOfBoundsException" (⟨"java/lang/Throwable", "fillInStackTrace", "(I)Ljava/lang/Throwable;"⟩ : MethodName) (⟨"java/lang/Throwable", "fillInStackTrace", "(I)Ljava/lang/Throwable;"⟩ : MethodName) ∈ kAL := List.mem_filter.mpr ⟨kin_t3 _ (List.mem_of_getElem? (i := 117) rfl), rfl⟩
theorem kq_3_118 : Cond.lays "java/lang/IndexOutOfBoundsException" "java/lang/Throwable" "cause" "Ljava/lang/Throwable;" ∈ kAL := List.mem_filter.mpr ⟨kin_t3 _ (List.mem_of_getElem? (i := 118) rfl), rfl⟩
theorem kq_3_119 : Cond.lays "java/lang/IndexOutOfBoundsException" "java/lang/Throwable" "stackTrace" "[Ljava/lang/StackTraceElement;" ∈ kAL := List.mem_filter.mpr ⟨kin_t3 _ (List.mem_of_getElem? (i := 119) rfl), rfl⟩
theorem kq_3_120 : Cond.lays "java/lang/IndexOutOfBoundsException" "java/lang/Throwable" "suppressedExceptions" "Ljava/util/List;" ∈ kAL := List.mem_filter.mpr ⟨kin_t3 _ (List.mem_of_getElem? (i := 120) rfl), rfl⟩
theorem kq_3_121 : Cond.lays "java/lang/IndexOutOfBoundsException" "java/lang/Throwable" "detailMessage" "Ljava/lang/String;" ∈ kAL := List.mem_filter.mpr ⟨kin_t3 _ (List.mem_of_getElem? (i := 121) rfl), rfl⟩
theorem kq_3_122 : Cond.lays "java/lang/IndexOutOfBoundsException" "java/lang/Throwable" "backtrace" "Ljava/lang/Object;" ∈ kAL := List.mem_filter.mpr ⟨kin_t3 _ (List.mem_of_getElem? (i := 122) rfl), rfl⟩
theorem kq_3_123 : Cond.methodLink "Parserpark" 221 (⟨"java/lang/IndexOutOfBoundsException", "<init>", "()V"⟩ : MethodName) ∈ kAL := List.mem_filter.mpr ⟨kin_t3 _ (List.mem_of_getElem? (i := 123) rfl), rfl⟩
theorem kq_3_124 : Cond.instanceMethod (⟨"java/lang/IndexOutOfBoundsException", "<init>", "()V"⟩ : MethodName) ∈ kAL := List.mem_filter.mpr ⟨kin_t3 _ (List.mem_of_getElem? (i := 124) rfl), rfl⟩
theorem kq_3_125 : Cond.code (⟨"java/lang/IndexOutOfBoundsException", "<init>", "()V"⟩ : MethodName) prog_16_method_1_code 1 none ∈ kAL := List.mem_filter.mpr ⟨kin_t3 _ (List.mem_of_getElem? (i := 125) rfl), rfl⟩
theorem kq_3_126 : Cond.methodLink "java/lang/IndexOutOfBoundsException" 1 (⟨"java/lang/RuntimeException", "<init>", "()V"⟩ : MethodName) ∈ kAL := List.mem_filter.mpr ⟨kin_t3 _ (List.mem_of_getElem? (i := 126) rfl), rfl⟩
theorem kq_3_127 : Cond.lays "java/lang/IndexOutOfBoundsException" "java/lang/Throwable" "depth" "I" ∈ kAL := List.mem_filter.mpr ⟨kin_t3 _ (List.mem_of_getElem? (i := 127) rfl), rfl⟩
theorem kq_3_128 : Cond.superclass "java/lang/IndexOutOfBoundsException" "java/lang/RuntimeException" ∈ lw_tbl := kin_t3 _ (List.mem_of_getElem? (i := 128) rfl)
theorem kq_3_129 : Cond.methodLink "ParserparkLaw" 140 yL_replace ∈ kAL := List.mem_filter.mpr ⟨kin_t3 _ (List.mem_of_getElem? (i := 129) rfl), rfl⟩
theorem kq_3_130 : Cond.static yL_replace ∈ kAL := List.mem_filter.mpr ⟨kin_t3 _ (List.mem_of_getElem? (i := 130) rfl), rfl⟩
theorem kq_3_131 : Cond.codeWith yL_replace method_9_code 6 (some .int) [(0, 12, 15, 37), (0, 12, 19, 13)] ∈ kAL := List.mem_filter.mpr ⟨kin_t3 _ (List.mem_of_getElem? (i := 131) rfl), rfl⟩
theorem kq_3_132 : Cond.methodLink "ParserparkLaw" 39 yX6_replace ∈ kAL := List.mem_filter.mpr ⟨kin_t3 _ (List.mem_of_getElem? (i := 132) rfl), rfl⟩
theorem kq_3_133 : Cond.instanceMethod yX6_replace ∈ kAL := List.mem_filter.mpr ⟨kin_t3 _ (List.mem_of_getElem? (i := 133) rfl), rfl⟩
theorem kq_3_134 : Cond.selects "Parserpark" yX6_replace yX6_replace ∈ kAL := List.mem_filter.mpr ⟨kin_t3 _ (List.mem_of_getElem? (i := 134) rfl), rfl⟩
theorem kq_3_135 : Cond.code yX6_replace prog_1_method_9_code 5 (some .int) ∈ kAL := List.mem_filter.mpr ⟨kin_t3 _ (List.mem_of_getElem? (i := 135) rfl), rfl⟩
theorem kq_3_136 : Cond.methodLink "Parserpark" 137 yX6_requirePlace ∈ kAL := List.mem_filter.mpr ⟨kin_t3 _ (List.mem_of_getElem? (i := 136) rfl), rfl⟩
theorem kq_3_137 : Cond.static yX6_requirePlace ∈ kAL := List.mem_filter.mpr ⟨kin_t3 _ (List.mem_of_getElem? (i := 137) rfl), rfl⟩
theorem kq_3_138 : Cond.code yX6_requirePlace prog_1_method_38_code 2 none ∈ kAL := List.mem_filter.mpr ⟨kin_t3 _ (List.mem_of_getElem? (i := 138) rfl), rfl⟩
theorem kq_3_139 : Cond.methodLink "Parserpark" 141 yX3_put ∈ kAL := List.mem_filter.mpr ⟨kin_t3 _ (List.mem_of_getElem? (i := 139) rfl), rfl⟩
theorem kq_3_140 : Cond.methodLink "ParserparkLaw" 143 yL_length ∈ kAL := List.mem_filter.mpr ⟨kin_t3 _ (List.mem_of_getElem? (i := 140) rfl), rfl⟩
theorem kq_3_141 : Cond.static yL_length ∈ kAL := List.mem_filter.mpr ⟨kin_t3 _ (List.mem_of_getElem? (i := 141) rfl), rfl⟩
theorem kq_3_142 : Cond.codeWith yL_length method_10_code 4 (some .int) [(0, 9, 12, 37)] ∈ kAL := List.mem_filter.mpr ⟨kin_t3 _ (List.mem_of_getElem? (i := 142) rfl), rfl⟩
theorem kq_3_143 : Cond.methodLink "ParserparkLaw" 42 yX6_length ∈ kAL := List.mem_filter.mpr ⟨kin_t3 _ (List.mem_of_getElem? (i := 143) rfl), rfl⟩
theorem kq_3_144 : Cond.instanceMethod yX6_length ∈ kAL := List.mem_filter.mpr ⟨kin_t3 _ (List.mem_of_getElem? (i := 144) rfl), rfl⟩
theorem kq_3_145 : Cond.selects "Parserpark" yX6_length yX6_length ∈ kAL := List.mem_filter.mpr ⟨kin_t3 _ (List.mem_of_getElem? (i := 145) rfl), rfl⟩
theorem kq_3_146 : Cond.code yX6_length prog_1_method_10_code 2 (some .int) ∈ kAL := List.mem_filter.mpr ⟨kin_t3 _ (List.mem_of_getElem? (i := 146) rfl), rfl⟩
theorem kq_3_147 : Cond.methodLink "ParserparkLaw" 146 yL_letterAt ∈ kAL := List.mem_filter.mpr ⟨kin_t3 _ (List.mem_of_getElem? (i := 147) rfl), rfl⟩
theorem kq_3_148 : Cond.static yL_letterAt ∈ kAL := List.mem_filter.mpr ⟨kin_t3 _ (List.mem_of_getElem? (i := 148) rfl), rfl⟩
theorem kq_3_149 : Cond.codeWith yL_letterAt method_11_code 5 (some .int) [(0, 10, 13, 37)] ∈ kAL := List.mem_filter.mpr ⟨kin_t3 _ (List.mem_of_getElem? (i := 149) rfl), rfl⟩
theorem kq_3_150 : Cond.methodLink "ParserparkLaw" 45 yX6_letterAt ∈ kAL := List.mem_filter.mpr ⟨kin_t3 _ (List.mem_of_getElem? (i := 150) rfl), rfl⟩
theorem kq_3_151 : Cond.instanceMethod yX6_letterAt ∈ kAL := List.mem_filter.mpr ⟨kin_t3 _ (List.mem_of_getElem? (i := 151) rfl), rfl⟩
theorem kq_3_152 : Cond.selects "Parserpark" yX6_letterAt yX6_letterAt ∈ kAL := List.mem_filter.mpr ⟨kin_t3 _ (List.mem_of_getElem? (i := 152) rfl), rfl⟩
theorem kq_3_153 : Cond.code yX6_letterAt prog_1_method_11_code 4 (some .int) ∈ kAL := List.mem_filter.mpr ⟨kin_t3 _ (List.mem_of_getElem? (i := 153) rfl), rfl⟩
theorem kq_3_154 : Cond.methodLink "Parserpark" 144 yX3_letterOf ∈ kAL := List.mem_filter.mpr ⟨kin_t3 _ (List.mem_of_getElem? (i := 154) rfl), rfl⟩
theorem kq_3_155 : Cond.methodLink "ParserparkLaw" 149 yL_trees ∈ kAL := List.mem_filter.mpr ⟨kin_t3 _ (List.mem_of_getElem? (i := 155) rfl), rfl⟩
theorem kq_3_156 : Cond.static yL_trees ∈ kAL := List.mem_filter.mpr ⟨kin_t3 _ (List.mem_of_getElem? (i := 156) rfl), rfl⟩
theorem kq_3_157 : Cond.codeWith yL_trees method_12_code 4 (some .int) [(0, 9, 12, 37)] ∈ kAL := List.mem_filter.mpr ⟨kin_t3 _ (List.mem_of_getElem? (i := 157) rfl), rfl⟩
theorem kq_3_158 : Cond.methodLink "ParserparkLaw" 48 yX6_trees ∈ kAL := List.mem_filter.mpr ⟨kin_t3 _ (List.mem_of_getElem? (i := 158) rfl), rfl⟩
theorem kq_3_159 : Cond.instanceMethod yX6_trees ∈ kAL := List.mem_filter.mpr ⟨kin_t3 _ (List.mem_of_getElem? (i := 159) rfl), rfl⟩
theorem kq_3_160 : Cond.selects "Parserpark" yX6_trees yX6_trees ∈ kAL := List.mem_filter.mpr ⟨kin_t3 _ (List.mem_of_getElem? (i := 160) rfl), rfl⟩
theorem kq_3_161 : Cond.code yX6_trees prog_1_method_12_code 2 (some .int) ∈ kAL := List.mem_filter.mpr ⟨kin_t3 _ (List.mem_of_getElem? (i := 161) rfl), rfl⟩
theorem kq_3_162 : Cond.methodLink "ParserparkLaw" 152 yL_treesByTrying ∈ kAL := List.mem_filter.mpr ⟨kin_t3 _ (List.mem_of_getElem? (i := 162) rfl), rfl⟩
theorem kq_3_163 : Cond.static yL_treesByTrying ∈ kAL := List.mem_filter.mpr ⟨kin_t3 _ (List.mem_of_getElem? (i := 163) rfl), rfl⟩
theorem kq_3_164 : Cond.codeWith yL_treesByTrying method_13_code 4 (some .int) [(0, 9, 12, 37), (0, 9, 15, 54)] ∈ kAL := List.mem_filter.mpr ⟨kin_t3 _ (List.mem_of_getElem? (i := 164) rfl), rfl⟩
theorem kq_3_165 : Cond.classLink "ParserparkLaw" 54 "java/lang/UnsupportedOperationException" ∈ kAL := List.mem_filter.mpr ⟨kin_t3 _ (List.mem_of_getElem? (i := 165) rfl), rfl⟩
theorem kq_3_166 : Cond.methodLink "ParserparkLaw" 51 yX6_treesByTrying ∈ kAL := List.mem_filter.mpr ⟨kin_t3 _ (List.mem_of_getElem? (i := 166) rfl), rfl⟩
theorem kq_3_167 : Cond.instanceMethod yX6_treesByTrying ∈ kAL := List.mem_filter.mpr ⟨kin_t3 _ (List.mem_of_getElem? (i := 167) rfl), rfl⟩
theorem kq_3_168 : Cond.selects "Parserpark" yX6_treesByTrying yX6_treesByTrying ∈ kAL := List.mem_filter.mpr ⟨kin_t3 _ (List.mem_of_getElem? (i := 168) rfl), rfl⟩
theorem kq_3_169 : Cond.code yX6_treesByTrying prog_1_method_13_code 3 (some .int) ∈ kAL := List.mem_filter.mpr ⟨kin_t3 _ (List.mem_of_getElem? (i := 169) rfl), rfl⟩
theorem kq_3_170 : Cond.classLink "Parserpark" 148 "java/lang/UnsupportedOperationException" ∈ kAL := List.mem_filter.mpr ⟨kin_t3 _ (List.mem_of_getElem? (i := 170) rfl), rfl⟩
theorem kq_3_171 : Cond.instantiable "java/lang/UnsupportedOperationException" 6 ∈ kAL := List.mem_filter.mpr ⟨kin_t3 _ (List.mem_of_getElem? (i := 171) rfl), rfl⟩
theorem kq_3_172 : Cond.castable "java/lang/UnsupportedOperationException" "java/lang/UnsupportedOperationException" ∈ kBL := List.mem_filter.mpr ⟨kin_t3 _ (List.mem_of_getElem? (i := 172) rfl), rfl⟩
theorem kq_3_173 : Cond.selects "java/lang/UnsupportedOperationException" (⟨"java/lang/Throwable", "fillInStackTrace", "(I)Ljava/lang/Throwable;"⟩ : MethodName) (⟨"java/lang/Throwable", "fillInStackTrace", "(I)Ljava/lang/Throwable;"⟩ : MethodName) ∈ kAL := List.mem_filter.mpr ⟨kin_t3 _ (List.mem_of_getElem? (i := 173) rfl), rfl⟩
theorem kq_3_174 : Cond.lays "java/lang/UnsupportedOperationException" "java/lang/Throwable" "cause" "Ljava/lang/Throwable;" ∈ kAL := List.mem_filter.mpr ⟨kin_t3 _ (List.mem_of_getElem? (i := 174) rfl), rfl⟩
theorem kq_3_175 : Cond.lays "java/lang/UnsupportedOperationException" "java/lang/Throwable" "stackTrace" "[Ljava/lang/StackTraceElement;" ∈ kAL := List.mem_filter.mpr ⟨kin_t3 _ (List.mem_of_getElem? (i := 175) rfl), rfl⟩
theorem kq_3_176 : Cond.lays "java/lang/UnsupportedOperationException" "java/lang/Throwable" "suppressedExceptions" "Ljava/util/List;" ∈ kAL := List.mem_filter.mpr ⟨kin_t3 _ (List.mem_of_getElem? (i := 176) rfl), rfl⟩
theorem kq_3_177 : Cond.lays "java/lang/UnsupportedOperationException" "java/lang/Throwable" "detailMessage" "Ljava/lang/String;" ∈ kAL := List.mem_filter.mpr ⟨kin_t3 _ (List.mem_of_getElem? (i := 177) rfl), rfl⟩
theorem kq_3_178 : Cond.lays "java/lang/UnsupportedOperationException" "java/lang/Throwable" "backtrace" "Ljava/lang/Object;" ∈ kAL := List.mem_filter.mpr ⟨kin_t3 _ (List.mem_of_getElem? (i := 178) rfl), rfl⟩
theorem kq_3_179 : Cond.methodLink "Parserpark" 150 (⟨"java/lang/UnsupportedOperationException", "<init>", "()V"⟩ : MethodName) ∈ kAL := List.mem_filter.mpr ⟨kin_t3 _ (List.mem_of_getElem? (i := 179) rfl), rfl⟩
theorem kq_3_180 : Cond.instanceMethod (⟨"java/lang/UnsupportedOperationException", "<init>", "()V"⟩ : MethodName) ∈ kAL := List.mem_filter.mpr ⟨kin_t3 _ (List.mem_of_getElem? (i := 180) rfl), rfl⟩
theorem kq_3_181 : Cond.code (⟨"java/lang/UnsupportedOperationException", "<init>", "()V"⟩ : MethodName) prog_21_method_1_code 1 none ∈ kAL := List.mem_filter.mpr ⟨kin_t3 _ (List.mem_of_getElem? (i := 181) rfl), rfl⟩
theorem kq_3_182 : Cond.methodLink "java/lang/UnsupportedOperationException" 1 (⟨"java/lang/RuntimeException", "<init>", "()V"⟩ : MethodName) ∈ kAL := List.mem_filter.mpr ⟨kin_t3 _ (List.mem_of_getElem? (i := 182) rfl), rfl⟩
theorem kq_3_183 : Cond.lays "java/lang/UnsupportedOperationException" "java/lang/Throwable" "depth" "I" ∈ kAL := List.mem_filter.mpr ⟨kin_t3 _ (List.mem_of_getElem? (i := 183) rfl), rfl⟩
theorem kq_3_184 : Cond.superclass "java/lang/UnsupportedOperationException" "java/lang/RuntimeException" ∈ lw_tbl := kin_t3 _ (List.mem_of_getElem? (i := 184) rfl)
theorem kq_3_185 : Cond.methodLink "ParserparkLaw" 155 yL_treesOver ∈ kAL := List.mem_filter.mpr ⟨kin_t3 _ (List.mem_of_getElem? (i := 185) rfl), rfl⟩
theorem kq_3_186 : Cond.static yL_treesOver ∈ kAL := List.mem_filter.mpr ⟨kin_t3 _ (List.mem_of_getElem? (i := 186) rfl), rfl⟩
theorem kq_3_187 : Cond.codeWith yL_treesOver method_14_code 7 (some .int) [(0, 14, 17, 37), (0, 14, 21, 13)] ∈ kAL := List.mem_filter.mpr ⟨kin_t3 _ (List.mem_of_getElem? (i := 187) rfl), rfl⟩
theorem kq_3_188 : Cond.methodLink "ParserparkLaw" 56 yX6_treesOver ∈ kAL := List.mem_filter.mpr ⟨kin_t3 _ (List.mem_of_getElem? (i := 188) rfl), rfl⟩
theorem kq_3_189 : Cond.instanceMethod yX6_treesOver ∈ kAL := List.mem_filter.mpr ⟨kin_t3 _ (List.mem_of_getElem? (i := 189) rfl), rfl⟩
theorem kq_3_190 : Cond.selects "Parserpark" yX6_treesOver yX6_treesOver ∈ kAL := List.mem_filter.mpr ⟨kin_t3 _ (List.mem_of_getElem? (i := 190) rfl), rfl⟩
theorem kq_3_191 : Cond.code yX6_treesOver prog_1_method_14_code 6 (some .int) ∈ kAL := List.mem_filter.mpr ⟨kin_t3 _ (List.mem_of_getElem? (i := 191) rfl), rfl⟩
theorem kq_3_192 : Cond.methodLink "Parserpark" 158 yX3_treesOf ∈ kAL := List.mem_filter.mpr ⟨kin_t3 _ (List.mem_of_getElem? (i := 192) rfl), rfl⟩
theorem kq_3_193 : Cond.methodLink "ParserparkLaw" 158 yL_size ∈ kAL := List.mem_filter.mpr ⟨kin_t3 _ (List.mem_of_getElem? (i := 193) rfl), rfl⟩
theorem kq_3_194 : Cond.static yL_size ∈ kAL := List.mem_filter.mpr ⟨kin_t3 _ (List.mem_of_getElem? (i := 194) rfl), rfl⟩
theorem kq_3_195 : Cond.codeWith yL_size method_15_code 4 (some .int) [(0, 9, 12, 37)] ∈ kAL := List.mem_filter.mpr ⟨kin_t3 _ (List.mem_of_getElem? (i := 195) rfl), rfl⟩
theorem kq_3_196 : Cond.methodLink "ParserparkLaw" 59 yX6_size ∈ kAL := List.mem_filter.mpr ⟨kin_t3 _ (List.mem_of_getElem? (i := 196) rfl), rfl⟩
theorem kq_3_197 : Cond.instanceMethod yX6_size ∈ kAL := List.mem_filter.mpr ⟨kin_t3 _ (List.mem_of_getElem? (i := 197) rfl), rfl⟩
theorem kq_3_198 : Cond.selects "Parserpark" yX6_size yX6_size ∈ kAL := List.mem_filter.mpr ⟨kin_t3 _ (List.mem_of_getElem? (i := 198) rfl), rfl⟩
theorem kq_3_199 : Cond.code yX6_size prog_1_method_15_code 2 (some .int) ∈ kAL := List.mem_filter.mpr ⟨kin_t3 _ (List.mem_of_getElem? (i := 199) rfl), rfl⟩
theorem kq_3_200 : Cond.methodLink "Parserpark" 162 yX6_layOut ∈ kAL := List.mem_filter.mpr ⟨kin_t3 _ (List.mem_of_getElem? (i := 200) rfl), rfl⟩
theorem kq_3_201 : Cond.privateMethod yX6_layOut ∈ lw_tbl := kin_t3 _ (List.mem_of_getElem? (i := 201) rfl)
theorem kq_3_202 : Cond.instanceMethod yX6_layOut ∈ kAL := List.mem_filter.mpr ⟨kin_t3 _ (List.mem_of_getElem? (i := 202) rfl), rfl⟩
theorem kq_3_203 : Cond.code yX6_layOut prog_1_method_41_code 2 none ∈ kAL := List.mem_filter.mpr ⟨kin_t3 _ (List.mem_of_getElem? (i := 203) rfl), rfl⟩
theorem kq_3_204 : Cond.methodLink "ParserparkLaw" 161 yL_ruleAt ∈ kAL := List.mem_filter.mpr ⟨kin_t3 _ (List.mem_of_getElem? (i := 204) rfl), rfl⟩
theorem kq_3_205 : Cond.static yL_ruleAt ∈ kAL := List.mem_filter.mpr ⟨kin_t3 _ (List.mem_of_getElem? (i := 205) rfl), rfl⟩
theorem kq_3_206 : Cond.codeWith yL_ruleAt method_16_code 5 (some .int) [(0, 10, 13, 37), (0, 10, 17, 21)] ∈ kAL := List.mem_filter.mpr ⟨kin_t3 _ (List.mem_of_getElem? (i := 206) rfl), rfl⟩
theorem kq_3_207 : Cond.methodLink "ParserparkLaw" 62 yX6_ruleAt ∈ kAL := List.mem_filter.mpr ⟨kin_t3 _ (List.mem_of_getElem? (i := 207) rfl), rfl⟩
theorem kq_3_208 : Cond.instanceMethod yX6_ruleAt ∈ kAL := List.mem_filter.mpr ⟨kin_t3 _ (List.mem_of_getElem? (i := 208) rfl), rfl⟩
theorem kq_3_209 : Cond.selects "Parserpark" yX6_ruleAt yX6_ruleAt ∈ kAL := List.mem_filter.mpr ⟨kin_t3 _ (List.mem_of_getElem? (i := 209) rfl), rfl⟩
theorem kq_3_210 : Cond.code yX6_ruleAt prog_1_method_16_code 3 (some .int) ∈ kAL := List.mem_filter.mpr ⟨kin_t3 _ (List.mem_of_getElem? (i := 210) rfl), rfl⟩
theorem kq_3_211 : Cond.methodLink "Parserpark" 171 yX1_ruleNumber ∈ kAL := List.mem_filter.mpr ⟨kin_t3 _ (List.mem_of_getElem? (i := 211) rfl), rfl⟩
theorem kq_3_212 : Cond.instanceMethod yX1_ruleNumber ∈ kAL := List.mem_filter.mpr ⟨kin_t3 _ (List.mem_of_getElem? (i := 212) rfl), rfl⟩
theorem kq_3_213 : Cond.selects "Parserpark$Layout" yX1_ruleNumber yX1_ruleNumber ∈ kAL := List.mem_filter.mpr ⟨kin_t3 _ (List.mem_of_getElem? (i := 213) rfl), rfl⟩
theorem kq_3_214 : Cond.code yX1_ruleNumber prog_3_method_8_code 2 (some .int) ∈ kAL := List.mem_filter.mpr ⟨kin_t3 _ (List.mem_of_getElem? (i := 214) rfl), rfl⟩
theorem kq_3_215 : Cond.methodLink "ParserparkLaw" 164 yL_depth ∈ kAL := List.mem_filter.mpr ⟨kin_t3 _ (List.mem_of_getElem? (i := 215) rfl), rfl⟩
theorem kq_3_216 : Cond.static yL_depth ∈ kAL := List.mem_filter.mpr ⟨kin_t3 _ (List.mem_of_getElem? (i := 216) rfl), rfl⟩
theorem kq_3_217 : Cond.codeWith yL_depth method_17_code 4 (some .int) [(0, 9, 12, 37)] ∈ kAL := List.mem_filter.mpr ⟨kin_t3 _ (List.mem_of_getElem? (i := 217) rfl), rfl⟩
theorem kq_3_218 : Cond.methodLink "ParserparkLaw" 65 yX6_depth ∈ kAL := List.mem_filter.mpr ⟨kin_t3 _ (List.mem_of_getElem? (i := 218) rfl), rfl⟩
theorem kq_3_219 : Cond.instanceMethod yX6_depth ∈ kAL := List.mem_filter.mpr ⟨kin_t3 _ (List.mem_of_getElem? (i := 219) rfl), rfl⟩
theorem kq_3_220 : Cond.selects "Parserpark" yX6_depth yX6_depth ∈ kAL := List.mem_filter.mpr ⟨kin_t3 _ (List.mem_of_getElem? (i := 220) rfl), rfl⟩
theorem kq_3_221 : Cond.code yX6_depth prog_1_method_17_code 2 (some .int) ∈ kAL := List.mem_filter.mpr ⟨kin_t3 _ (List.mem_of_getElem? (i := 221) rfl), rfl⟩
theorem kq_3_222 : Cond.methodLink "ParserparkLaw" 167 yL_colourAt ∈ kAL := List.mem_filter.mpr ⟨kin_t3 _ (List.mem_of_getElem? (i := 222) rfl), rfl⟩
theorem kq_3_223 : Cond.static yL_colourAt ∈ kAL := List.mem_filter.mpr ⟨kin_t3 _ (List.mem_of_getElem? (i := 223) rfl), rfl⟩
theorem kq_3_224 : Cond.codeWith yL_colourAt method_18_code 5 (some .int) [(0, 10, 13, 37)] ∈ kAL := List.mem_filter.mpr ⟨kin_t3 _ (List.mem_of_getElem? (i := 224) rfl), rfl⟩
theorem kq_3_225 : Cond.methodLink "ParserparkLaw" 68 yX6_colourAt ∈ kAL := List.mem_filter.mpr ⟨kin_t3 _ (List.mem_of_getElem? (i := 225) rfl), rfl⟩
theorem kq_3_226 : Cond.instanceMethod yX6_colourAt ∈ kAL := List.mem_filter.mpr ⟨kin_t3 _ (List.mem_of_getElem? (i := 226) rfl), rfl⟩
theorem kq_3_227 : Cond.selects "Parserpark" yX6_colourAt yX6_colourAt ∈ kAL := List.mem_filter.mpr ⟨kin_t3 _ (List.mem_of_getElem? (i := 227) rfl), rfl⟩
theorem kq_3_228 : Cond.code yX6_colourAt prog_1_method_18_code 4 (some .int) ∈ kAL := List.mem_filter.mpr ⟨kin_t3 _ (List.mem_of_getElem? (i := 228) rfl), rfl⟩
theorem kq_3_229 : Cond.methodLink "Parserpark" 181 yX1_colourOf ∈ kAL := List.mem_filter.mpr ⟨kin_t3 _ (List.mem_of_getElem? (i := 229) rfl), rfl⟩
theorem kq_3_230 : Cond.instanceMethod yX1_colourOf ∈ kAL := List.mem_filter.mpr ⟨kin_t3 _ (List.mem_of_getElem? (i := 230) rfl), rfl⟩
theorem kq_3_231 : Cond.selects "Parserpark$Layout" yX1_colourOf yX1_colourOf ∈ kAL := List.mem_filter.mpr ⟨kin_t3 _ (List.mem_of_getElem? (i := 231) rfl), rfl⟩
theorem kq_3_232 : Cond.code yX1_colourOf prog_3_method_9_code 2 (some .int) ∈ kAL := List.mem_filter.mpr ⟨kin_t3 _ (List.mem_of_getElem? (i := 232) rfl), rfl⟩
theorem kq_3_233 : Cond.methodLink "ParserparkLaw" 170 yL_formatted ∈ kAL := List.mem_filter.mpr ⟨kin_t3 _ (List.mem_of_getElem? (i := 233) rfl), rfl⟩
theorem kq_3_234 : Cond.static yL_formatted ∈ kAL := List.mem_filter.mpr ⟨kin_t3 _ (List.mem_of_getElem? (i := 234) rfl), rfl⟩
theorem kq_3_235 : Cond.codeWith yL_formatted method_19_code 4 (some .int) [(0, 9, 12, 37)] ∈ kAL := List.mem_filter.mpr ⟨kin_t3 _ (List.mem_of_getElem? (i := 235) rfl), rfl⟩
theorem kq_3_236 : Cond.methodLink "ParserparkLaw" 71 yX6_formatted ∈ kAL := List.mem_filter.mpr ⟨kin_t3 _ (List.mem_of_getElem? (i := 236) rfl), rfl⟩
theorem kq_3_237 : Cond.instanceMethod yX6_formatted ∈ kAL := List.mem_filter.mpr ⟨kin_t3 _ (List.mem_of_getElem? (i := 237) rfl), rfl⟩
theorem kq_3_238 : Cond.selects "Parserpark" yX6_formatted yX6_formatted ∈ kAL := List.mem_filter.mpr ⟨kin_t3 _ (List.mem_of_getElem? (i := 238) rfl), rfl⟩
theorem kq_3_239 : Cond.code yX6_formatted prog_1_method_19_code 2 (some .int) ∈ kAL := List.mem_filter.mpr ⟨kin_t3 _ (List.mem_of_getElem? (i := 239) rfl), rfl⟩
theorem kq_4_0 : Cond.methodLink "Parserpark" 184 yX1_countSigns ∈ kAL := List.mem_filter.mpr ⟨kin_t4 _ (List.mem_of_getElem? (i := 0) rfl), rfl⟩
theorem kq_4_1 : Cond.instanceMethod yX1_countSigns ∈ kAL := List.mem_filter.mpr ⟨kin_t4 _ (List.mem_of_getElem? (i := 1) rfl), rfl⟩
theorem kq_4_2 : Cond.selects "Parserpark$Layout" yX1_countSigns yX1_countSigns ∈ kAL := List.mem_filter.mpr ⟨kin_t4 _ (List.mem_of_getElem? (i := 2) rfl), rfl⟩
theorem kq_4_3 : Cond.code yX1_countSigns prog_3_method_10_code 6 (some .int) ∈ kAL := List.mem_filter.mpr ⟨kin_t4 _ (List.mem_of_getElem? (i := 3) rfl), rfl⟩
theorem kq_4_4 : Cond.methodLink "ParserparkLaw" 173 yL_formattedAt ∈ kAL := List.mem_filter.mpr ⟨kin_t4 _ (List.mem_of_getElem? (i := 4) rfl), rfl⟩
theorem kq_4_5 : Cond.static yL_formattedAt ∈ kAL := List.mem_filter.mpr ⟨kin_t4 _ (List.mem_of_getElem? (i := 5) rfl), rfl⟩
theorem kq_4_6 : Cond.codeWith yL_formattedAt method_20_code 5 (some .int) [(0, 10, 13, 37), (0, 10, 17, 21)] ∈ kAL := List.mem_filter.mpr ⟨kin_t4 _ (List.mem_of_getElem? (i := 6) rfl), rfl⟩
theorem kq_4_7 : Cond.methodLink "ParserparkLaw" 74 yX6_formattedAt ∈ kAL := List.mem_filter.mpr ⟨kin_t4 _ (List.mem_of_getElem? (i := 7) rfl), rfl⟩
theorem kq_4_8 : Cond.instanceMethod yX6_formattedAt ∈ kAL := List.mem_filter.mpr ⟨kin_t4 _ (List.mem_of_getElem? (i := 8) rfl), rfl⟩
theorem kq_4_9 : Cond.selects "Parserpark" yX6_formattedAt yX6_formattedAt ∈ kAL := List.mem_filter.mpr ⟨kin_t4 _ (List.mem_of_getElem? (i := 9) rfl), rfl⟩
theorem kq_4_10 : Cond.code yX6_formattedAt prog_1_method_20_code 4 (some .char) ∈ kAL := List.mem_filter.mpr ⟨kin_t4 _ (List.mem_of_getElem? (i := 10) rfl), rfl⟩
theorem kq_4_11 : Cond.methodLink "Parserpark" 187 yX1_sign ∈ kAL := List.mem_filter.mpr ⟨kin_t4 _ (List.mem_of_getElem? (i := 11) rfl), rfl⟩
theorem kq_4_12 : Cond.instanceMethod yX1_sign ∈ kAL := List.mem_filter.mpr ⟨kin_t4 _ (List.mem_of_getElem? (i := 12) rfl), rfl⟩
theorem kq_4_13 : Cond.selects "Parserpark$Layout" yX1_sign yX1_sign ∈ kAL := List.mem_filter.mpr ⟨kin_t4 _ (List.mem_of_getElem? (i := 13) rfl), rfl⟩
theorem kq_4_14 : Cond.code yX1_sign prog_3_method_11_code 5 (some .char) ∈ kAL := List.mem_filter.mpr ⟨kin_t4 _ (List.mem_of_getElem? (i := 14) rfl), rfl⟩
theorem kq_4_15 : Cond.methodLink "Parserpark$Layout" 120 yX3_letterOf ∈ kAL := List.mem_filter.mpr ⟨kin_t4 _ (List.mem_of_getElem? (i := 15) rfl), rfl⟩
theorem kq_4_16 : Cond.methodLink "ParserparkLaw" 176 yL_accept ∈ kAL := List.mem_filter.mpr ⟨kin_t4 _ (List.mem_of_getElem? (i := 16) rfl), rfl⟩
theorem kq_4_17 : Cond.static yL_accept ∈ kAL := List.mem_filter.mpr ⟨kin_t4 _ (List.mem_of_getElem? (i := 17) rfl), rfl⟩
theorem kq_4_18 : Cond.codeWith yL_accept method_21_code 4 (some .int) [(0, 9, 12, 37), (0, 9, 15, 15)] ∈ kAL := List.mem_filter.mpr ⟨kin_t4 _ (List.mem_of_getElem? (i := 18) rfl), rfl⟩
theorem kq_4_19 : Cond.methodLink "ParserparkLaw" 78 yX6_accept ∈ kAL := List.mem_filter.mpr ⟨kin_t4 _ (List.mem_of_getElem? (i := 19) rfl), rfl⟩
theorem kq_4_20 : Cond.instanceMethod yX6_accept ∈ kAL := List.mem_filter.mpr ⟨kin_t4 _ (List.mem_of_getElem? (i := 20) rfl), rfl⟩
theorem kq_4_21 : Cond.selects "Parserpark" yX6_accept yX6_accept ∈ kAL := List.mem_filter.mpr ⟨kin_t4 _ (List.mem_of_getElem? (i := 21) rfl), rfl⟩
theorem kq_4_22 : Cond.code yX6_accept prog_1_method_21_code 3 (some .int) ∈ kAL := List.mem_filter.mpr ⟨kin_t4 _ (List.mem_of_getElem? (i := 22) rfl), rfl⟩
theorem kq_4_23 : Cond.methodLink "Parserpark" 191 yX4_keep ∈ kAL := List.mem_filter.mpr ⟨kin_t4 _ (List.mem_of_getElem? (i := 23) rfl), rfl⟩
theorem kq_4_24 : Cond.instanceMethod yX4_keep ∈ kAL := List.mem_filter.mpr ⟨kin_t4 _ (List.mem_of_getElem? (i := 24) rfl), rfl⟩
theorem kq_4_25 : Cond.selects "Parserpark$Text" yX4_keep yX4_keep ∈ kAL := List.mem_filter.mpr ⟨kin_t4 _ (List.mem_of_getElem? (i := 25) rfl), rfl⟩
theorem kq_4_26 : Cond.code yX4_keep prog_6_method_2_code 3 none ∈ kAL := List.mem_filter.mpr ⟨kin_t4 _ (List.mem_of_getElem? (i := 26) rfl), rfl⟩
theorem kq_4_27 : Cond.methodLink "Parserpark$Text" 31 yJ9_min_7cf53 ∈ kAL := List.mem_filter.mpr ⟨kin_t4 _ (List.mem_of_getElem? (i := 27) rfl), rfl⟩
theorem kq_4_28 : Cond.methodLink "Parserpark$Text" 37 yX1_ruleNumber ∈ kAL := List.mem_filter.mpr ⟨kin_t4 _ (List.mem_of_getElem? (i := 28) rfl), rfl⟩
theorem kq_4_29 : Cond.methodLink "ParserparkLaw" 179 yL_fault ∈ kAL := List.mem_filter.mpr ⟨kin_t4 _ (List.mem_of_getElem? (i := 29) rfl), rfl⟩
theorem kq_4_30 : Cond.static yL_fault ∈ kAL := List.mem_filter.mpr ⟨kin_t4 _ (List.mem_of_getElem? (i := 30) rfl), rfl⟩
theorem kq_4_31 : Cond.codeWith yL_fault method_22_code 4 (some .int) [(0, 9, 12, 37)] ∈ kAL := List.mem_filter.mpr ⟨kin_t4 _ (List.mem_of_getElem? (i := 31) rfl), rfl⟩
theorem kq_4_32 : Cond.methodLink "ParserparkLaw" 81 yX6_fault ∈ kAL := List.mem_filter.mpr ⟨kin_t4 _ (List.mem_of_getElem? (i := 32) rfl), rfl⟩
theorem kq_4_33 : Cond.instanceMethod yX6_fault ∈ kAL := List.mem_filter.mpr ⟨kin_t4 _ (List.mem_of_getElem? (i := 33) rfl), rfl⟩
theorem kq_4_34 : Cond.selects "Parserpark" yX6_fault yX6_fault ∈ kAL := List.mem_filter.mpr ⟨kin_t4 _ (List.mem_of_getElem? (i := 34) rfl), rfl⟩
theorem kq_4_35 : Cond.code yX6_fault prog_1_method_22_code 2 (some .char) ∈ kAL := List.mem_filter.mpr ⟨kin_t4 _ (List.mem_of_getElem? (i := 35) rfl), rfl⟩
theorem kq_4_36 : Cond.methodLink "Parserpark" 195 yX6_faultOf ∈ kAL := List.mem_filter.mpr ⟨kin_t4 _ (List.mem_of_getElem? (i := 36) rfl), rfl⟩
theorem kq_4_37 : Cond.privateMethod yX6_faultOf ∈ lw_tbl := kin_t4 _ (List.mem_of_getElem? (i := 37) rfl)
theorem kq_4_38 : Cond.instanceMethod yX6_faultOf ∈ kAL := List.mem_filter.mpr ⟨kin_t4 _ (List.mem_of_getElem? (i := 38) rfl), rfl⟩
theorem kq_4_39 : Cond.code yX6_faultOf prog_1_method_43_code 3 (some .char) ∈ kAL := List.mem_filter.mpr ⟨kin_t4 _ (List.mem_of_getElem? (i := 39) rfl), rfl⟩
theorem kq_4_40 : Cond.methodLink "Parserpark" 236 yX4_hasAccepted ∈ kAL := List.mem_filter.mpr ⟨kin_t4 _ (List.mem_of_getElem? (i := 40) rfl), rfl⟩
theorem kq_4_41 : Cond.instanceMethod yX4_hasAccepted ∈ kAL := List.mem_filter.mpr ⟨kin_t4 _ (List.mem_of_getElem? (i := 41) rfl), rfl⟩
theorem kq_4_42 : Cond.selects "Parserpark$Text" yX4_hasAccepted yX4_hasAccepted ∈ kAL := List.mem_filter.mpr ⟨kin_t4 _ (List.mem_of_getElem? (i := 42) rfl), rfl⟩
theorem kq_4_43 : Cond.code yX4_hasAccepted prog_6_method_3_code 3 (some .boolean) ∈ kAL := List.mem_filter.mpr ⟨kin_t4 _ (List.mem_of_getElem? (i := 43) rfl), rfl⟩
theorem kq_4_44 : Cond.methodLink "ParserparkLaw" 182 yL_release ∈ kAL := List.mem_filter.mpr ⟨kin_t4 _ (List.mem_of_getElem? (i := 44) rfl), rfl⟩
theorem kq_4_45 : Cond.static yL_release ∈ kAL := List.mem_filter.mpr ⟨kin_t4 _ (List.mem_of_getElem? (i := 45) rfl), rfl⟩
theorem kq_4_46 : Cond.codeWith yL_release method_23_code 3 (some .int) [(0, 8, 11, 15), (0, 8, 14, 54)] ∈ kAL := List.mem_filter.mpr ⟨kin_t4 _ (List.mem_of_getElem? (i := 46) rfl), rfl⟩
theorem kq_4_47 : Cond.methodLink "ParserparkLaw" 85 yX6_release ∈ kAL := List.mem_filter.mpr ⟨kin_t4 _ (List.mem_of_getElem? (i := 47) rfl), rfl⟩
theorem kq_4_48 : Cond.instanceMethod yX6_release ∈ kAL := List.mem_filter.mpr ⟨kin_t4 _ (List.mem_of_getElem? (i := 48) rfl), rfl⟩
theorem kq_4_49 : Cond.selects "Parserpark" yX6_release yX6_release ∈ kAL := List.mem_filter.mpr ⟨kin_t4 _ (List.mem_of_getElem? (i := 49) rfl), rfl⟩
theorem kq_4_50 : Cond.code yX6_release prog_1_method_23_code 1 (some .int) ∈ kAL := List.mem_filter.mpr ⟨kin_t4 _ (List.mem_of_getElem? (i := 50) rfl), rfl⟩
theorem kq_4_51 : Cond.methodLink "Parserpark" 199 yX6_countClean ∈ kAL := List.mem_filter.mpr ⟨kin_t4 _ (List.mem_of_getElem? (i := 51) rfl), rfl⟩
theorem kq_4_52 : Cond.privateMethod yX6_countClean ∈ lw_tbl := kin_t4 _ (List.mem_of_getElem? (i := 52) rfl)
theorem kq_4_53 : Cond.instanceMethod yX6_countClean ∈ kAL := List.mem_filter.mpr ⟨kin_t4 _ (List.mem_of_getElem? (i := 53) rfl), rfl⟩
theorem kq_4_54 : Cond.code yX6_countClean prog_1_method_44_code 6 (some .int) ∈ kAL := List.mem_filter.mpr ⟨kin_t4 _ (List.mem_of_getElem? (i := 54) rfl), rfl⟩
theorem kq_4_55 : Cond.methodLink "ParserparkLaw" 186 yL_ambiguous ∈ kAL := List.mem_filter.mpr ⟨kin_t4 _ (List.mem_of_getElem? (i := 55) rfl), rfl⟩
theorem kq_4_56 : Cond.static yL_ambiguous ∈ kAL := List.mem_filter.mpr ⟨kin_t4 _ (List.mem_of_getElem? (i := 56) rfl), rfl⟩
theorem kq_4_57 : Cond.codeWith yL_ambiguous method_24_code 5 (some .int) [(0, 10, 13, 13), (0, 10, 17, 21)] ∈ kAL := List.mem_filter.mpr ⟨kin_t4 _ (List.mem_of_getElem? (i := 57) rfl), rfl⟩
theorem kq_4_58 : Cond.methodLink "ParserparkLaw" 89 yX6_ambiguous ∈ kAL := List.mem_filter.mpr ⟨kin_t4 _ (List.mem_of_getElem? (i := 58) rfl), rfl⟩
theorem kq_4_59 : Cond.instanceMethod yX6_ambiguous ∈ kAL := List.mem_filter.mpr ⟨kin_t4 _ (List.mem_of_getElem? (i := 59) rfl), rfl⟩
theorem kq_4_60 : Cond.selects "Parserpark" yX6_ambiguous yX6_ambiguous ∈ kAL := List.mem_filter.mpr ⟨kin_t4 _ (List.mem_of_getElem? (i := 60) rfl), rfl⟩
theorem kq_4_61 : Cond.code yX6_ambiguous prog_1_method_24_code 3 (some .int) ∈ kAL := List.mem_filter.mpr ⟨kin_t4 _ (List.mem_of_getElem? (i := 61) rfl), rfl⟩
theorem kq_4_62 : Cond.methodLink "Parserpark" 202 yX6_lengthOfAmbiguousRow ∈ kAL := List.mem_filter.mpr ⟨kin_t4 _ (List.mem_of_getElem? (i := 62) rfl), rfl⟩
theorem kq_4_63 : Cond.privateMethod yX6_lengthOfAmbiguousRow ∈ lw_tbl := kin_t4 _ (List.mem_of_getElem? (i := 63) rfl)
theorem kq_4_64 : Cond.instanceMethod yX6_lengthOfAmbiguousRow ∈ kAL := List.mem_filter.mpr ⟨kin_t4 _ (List.mem_of_getElem? (i := 64) rfl), rfl⟩
theorem kq_4_65 : Cond.code yX6_lengthOfAmbiguousRow prog_1_method_45_code 4 (some .int) ∈ kAL := List.mem_filter.mpr ⟨kin_t4 _ (List.mem_of_getElem? (i := 65) rfl), rfl⟩
theorem kq_4_66 : Cond.methodLink "Parserpark" 240 yX6_findAmbiguousRow ∈ kAL := List.mem_filter.mpr ⟨kin_t4 _ (List.mem_of_getElem? (i := 66) rfl), rfl⟩
theorem kq_4_67 : Cond.privateMethod yX6_findAmbiguousRow ∈ lw_tbl := kin_t4 _ (List.mem_of_getElem? (i := 67) rfl)
theorem kq_4_68 : Cond.instanceMethod yX6_findAmbiguousRow ∈ kAL := List.mem_filter.mpr ⟨kin_t4 _ (List.mem_of_getElem? (i := 68) rfl), rfl⟩
theorem kq_4_69 : Cond.code yX6_findAmbiguousRow prog_1_method_46_code 4 (some .boolean) ∈ kAL := List.mem_filter.mpr ⟨kin_t4 _ (List.mem_of_getElem? (i := 69) rfl), rfl⟩
theorem kq_4_70 : Cond.methodLink "Parserpark" 244 yX3_startRow ∈ kAL := List.mem_filter.mpr ⟨kin_t4 _ (List.mem_of_getElem? (i := 70) rfl), rfl⟩
theorem kq_4_71 : Cond.instanceMethod yX3_startRow ∈ kAL := List.mem_filter.mpr ⟨kin_t4 _ (List.mem_of_getElem? (i := 71) rfl), rfl⟩
theorem kq_4_72 : Cond.selects "Parserpark$Spans" yX3_startRow yX3_startRow ∈ kAL := List.mem_filter.mpr ⟨kin_t4 _ (List.mem_of_getElem? (i := 72) rfl), rfl⟩
theorem kq_4_73 : Cond.code yX3_startRow prog_5_method_6_code 2 none ∈ kAL := List.mem_filter.mpr ⟨kin_t4 _ (List.mem_of_getElem? (i := 73) rfl), rfl⟩
theorem kq_4_74 : Cond.methodLink "Parserpark$Spans" 36 yJ7_fill_53178 ∈ kAL := List.mem_filter.mpr ⟨kin_t4 _ (List.mem_of_getElem? (i := 74) rfl), rfl⟩
theorem kq_4_75 : Cond.methodLink "Parserpark" 247 yX3_nextRow ∈ kAL := List.mem_filter.mpr ⟨kin_t4 _ (List.mem_of_getElem? (i := 75) rfl), rfl⟩
theorem kq_4_76 : Cond.instanceMethod yX3_nextRow ∈ kAL := List.mem_filter.mpr ⟨kin_t4 _ (List.mem_of_getElem? (i := 76) rfl), rfl⟩
theorem kq_4_77 : Cond.selects "Parserpark$Spans" yX3_nextRow yX3_nextRow ∈ kAL := List.mem_filter.mpr ⟨kin_t4 _ (List.mem_of_getElem? (i := 77) rfl), rfl⟩
theorem kq_4_78 : Cond.code yX3_nextRow prog_5_method_7_code 4 (some .boolean) ∈ kAL := List.mem_filter.mpr ⟨kin_t4 _ (List.mem_of_getElem? (i := 78) rfl), rfl⟩
theorem kq_4_79 : Cond.methodLink "ParserparkLaw" 189 yL_ambiguousAt ∈ kAL := List.mem_filter.mpr ⟨kin_t4 _ (List.mem_of_getElem? (i := 79) rfl), rfl⟩
theorem kq_4_80 : Cond.static yL_ambiguousAt ∈ kAL := List.mem_filter.mpr ⟨kin_t4 _ (List.mem_of_getElem? (i := 80) rfl), rfl⟩
theorem kq_4_81 : Cond.codeWith yL_ambiguousAt method_25_code 6 (some .int) [(0, 12, 15, 13), (0, 12, 19, 21)] ∈ kAL := List.mem_filter.mpr ⟨kin_t4 _ (List.mem_of_getElem? (i := 81) rfl), rfl⟩
theorem kq_4_82 : Cond.methodLink "ParserparkLaw" 92 yX6_ambiguousAt ∈ kAL := List.mem_filter.mpr ⟨kin_t4 _ (List.mem_of_getElem? (i := 82) rfl), rfl⟩
theorem kq_4_83 : Cond.instanceMethod yX6_ambiguousAt ∈ kAL := List.mem_filter.mpr ⟨kin_t4 _ (List.mem_of_getElem? (i := 83) rfl), rfl⟩
theorem kq_4_84 : Cond.selects "Parserpark" yX6_ambiguousAt yX6_ambiguousAt ∈ kAL := List.mem_filter.mpr ⟨kin_t4 _ (List.mem_of_getElem? (i := 84) rfl), rfl⟩
theorem kq_4_85 : Cond.code yX6_ambiguousAt prog_1_method_25_code 5 (some .int) ∈ kAL := List.mem_filter.mpr ⟨kin_t4 _ (List.mem_of_getElem? (i := 85) rfl), rfl⟩
theorem kq_4_86 : Cond.methodLink "ParserparkLaw" 197 yL_cleanShare ∈ kAL := List.mem_filter.mpr ⟨kin_t4 _ (List.mem_of_getElem? (i := 86) rfl), rfl⟩
theorem kq_4_87 : Cond.static yL_cleanShare ∈ kAL := List.mem_filter.mpr ⟨kin_t4 _ (List.mem_of_getElem? (i := 87) rfl), rfl⟩
theorem kq_4_88 : Cond.codeWith yL_cleanShare method_26_code 3 (some .int) [(0, 8, 11, 99)] ∈ kAL := List.mem_filter.mpr ⟨kin_t4 _ (List.mem_of_getElem? (i := 88) rfl), rfl⟩
theorem kq_4_89 : Cond.classLink "ParserparkLaw" 99 "java/lang/ArithmeticException" ∈ kAL := List.mem_filter.mpr ⟨kin_t4 _ (List.mem_of_getElem? (i := 89) rfl), rfl⟩
theorem kq_4_90 : Cond.instantiable "java/lang/ArithmeticException" 6 ∈ kAL := List.mem_filter.mpr ⟨kin_t4 _ (List.mem_of_getElem? (i := 90) rfl), rfl⟩
theorem kq_4_91 : Cond.instanceMethod (⟨"java/lang/ArithmeticException", "<init>", "(Ljava/lang/String;)V"⟩ : MethodName) ∈ kAL := List.mem_filter.mpr ⟨kin_t4 _ (List.mem_of_getElem? (i := 91) rfl), rfl⟩
theorem kq_4_92 : Cond.code (⟨"java/lang/ArithmeticException", "<init>", "(Ljava/lang/String;)V"⟩ : MethodName) prog_11_method_2_code 2 none ∈ kAL := List.mem_filter.mpr ⟨kin_t4 _ (List.mem_of_getElem? (i := 92) rfl), rfl⟩
theorem kq_4_93 : Cond.methodLink "java/lang/ArithmeticException" 7 (⟨"java/lang/RuntimeException", "<init>", "(Ljava/lang/String;)V"⟩ : MethodName) ∈ kAL := List.mem_filter.mpr ⟨kin_t4 _ (List.mem_of_getElem? (i := 93) rfl), rfl⟩
theorem kq_4_94 : Cond.lays "java/lang/ArithmeticException" "java/lang/Throwable" "backtrace" "Ljava/lang/Object;" ∈ kAL := List.mem_filter.mpr ⟨kin_t4 _ (List.mem_of_getElem? (i := 94) rfl), rfl⟩
theorem kq_4_95 : Cond.lays "java/lang/ArithmeticException" "java/lang/Throwable" "detailMessage" "Ljava/lang/String;" ∈ kAL := List.mem_filter.mpr ⟨kin_t4 _ (List.mem_of_getElem? (i := 95) rfl), rfl⟩
theorem kq_4_96 : Cond.lays "java/lang/ArithmeticException" "java/lang/Throwable" "cause" "Ljava/lang/Throwable;" ∈ kAL := List.mem_filter.mpr ⟨kin_t4 _ (List.mem_of_getElem? (i := 96) rfl), rfl⟩
theorem kq_4_97 : Cond.lays "java/lang/ArithmeticException" "java/lang/Throwable" "stackTrace" "[Ljava/lang/StackTraceElement;" ∈ kAL := List.mem_filter.mpr ⟨kin_t4 _ (List.mem_of_getElem? (i := 97) rfl), rfl⟩
theorem kq_4_98 : Cond.lays "java/lang/ArithmeticException" "java/lang/Throwable" "depth" "I" ∈ kAL := List.mem_filter.mpr ⟨kin_t4 _ (List.mem_of_getElem? (i := 98) rfl), rfl⟩
theorem kq_4_99 : Cond.lays "java/lang/ArithmeticException" "java/lang/Throwable" "suppressedExceptions" "Ljava/util/List;" ∈ kAL := List.mem_filter.mpr ⟨kin_t4 _ (List.mem_of_getElem? (i := 99) rfl), rfl⟩
theorem kq_4_100 : Cond.superclass "java/lang/ArithmeticException" "java/lang/RuntimeException" ∈ lw_tbl := kin_t4 _ (List.mem_of_getElem? (i := 100) rfl)
theorem kq_4_101 : Cond.castable "java/lang/ArithmeticException" "java/lang/ArithmeticException" ∈ kBL := List.mem_filter.mpr ⟨kin_t4 _ (List.mem_of_getElem? (i := 101) rfl), rfl⟩
theorem kq_4_102 : Cond.selects "java/lang/ArithmeticException" (⟨"java/lang/Throwable", "fillInStackTrace", "(I)Ljava/lang/Throwable;"⟩ : MethodName) (⟨"java/lang/Throwable", "fillInStackTrace", "(I)Ljava/lang/Throwable;"⟩ : MethodName) ∈ kAL := List.mem_filter.mpr ⟨kin_t4 _ (List.mem_of_getElem? (i := 102) rfl), rfl⟩
theorem kq_4_103 : Cond.methodLink "ParserparkLaw" 95 yX6_cleanShare ∈ kAL := List.mem_filter.mpr ⟨kin_t4 _ (List.mem_of_getElem? (i := 103) rfl), rfl⟩
theorem kq_4_104 : Cond.instanceMethod yX6_cleanShare ∈ kAL := List.mem_filter.mpr ⟨kin_t4 _ (List.mem_of_getElem? (i := 104) rfl), rfl⟩
theorem kq_4_105 : Cond.selects "Parserpark" yX6_cleanShare yX6_cleanShare ∈ kAL := List.mem_filter.mpr ⟨kin_t4 _ (List.mem_of_getElem? (i := 105) rfl), rfl⟩
theorem kq_4_106 : Cond.code yX6_cleanShare prog_1_method_27_code 1 (some .float) ∈ kAL := List.mem_filter.mpr ⟨kin_t4 _ (List.mem_of_getElem? (i := 106) rfl), rfl⟩
theorem kq_4_107 : Cond.classLink "Parserpark" 206 "java/lang/ArithmeticException" ∈ kAL := List.mem_filter.mpr ⟨kin_t4 _ (List.mem_of_getElem? (i := 107) rfl), rfl⟩
theorem kq_4_108 : Cond.methodLink "Parserpark" 208 (⟨"java/lang/ArithmeticException", "<init>", "()V"⟩ : MethodName) ∈ kAL := List.mem_filter.mpr ⟨kin_t4 _ (List.mem_of_getElem? (i := 108) rfl), rfl⟩
theorem kq_4_109 : Cond.instanceMethod (⟨"java/lang/ArithmeticException", "<init>", "()V"⟩ : MethodName) ∈ kAL := List.mem_filter.mpr ⟨kin_t4 _ (List.mem_of_getElem? (i := 109) rfl), rfl⟩
theorem kq_4_110 : Cond.code (⟨"java/lang/ArithmeticException", "<init>", "()V"⟩ : MethodName) prog_11_method_1_code 1 none ∈ kAL := List.mem_filter.mpr ⟨kin_t4 _ (List.mem_of_getElem? (i := 110) rfl), rfl⟩
theorem kq_4_111 : Cond.methodLink "java/lang/ArithmeticException" 1 (⟨"java/lang/RuntimeException", "<init>", "()V"⟩ : MethodName) ∈ kAL := List.mem_filter.mpr ⟨kin_t4 _ (List.mem_of_getElem? (i := 111) rfl), rfl⟩
theorem kq_4_112 : Cond.methodLink "ParserparkLaw" 201 yL_meanTrees ∈ kAL := List.mem_filter.mpr ⟨kin_t4 _ (List.mem_of_getElem? (i := 112) rfl), rfl⟩
theorem kq_4_113 : Cond.static yL_meanTrees ∈ kAL := List.mem_filter.mpr ⟨kin_t4 _ (List.mem_of_getElem? (i := 113) rfl), rfl⟩
theorem kq_4_114 : Cond.codeWith yL_meanTrees method_27_code 3 (some .int) [(0, 7, 10, 99)] ∈ kAL := List.mem_filter.mpr ⟨kin_t4 _ (List.mem_of_getElem? (i := 114) rfl), rfl⟩
theorem kq_4_115 : Cond.methodLink "ParserparkLaw" 101 yX6_meanTrees ∈ kAL := List.mem_filter.mpr ⟨kin_t4 _ (List.mem_of_getElem? (i := 115) rfl), rfl⟩
theorem kq_4_116 : Cond.instanceMethod yX6_meanTrees ∈ kAL := List.mem_filter.mpr ⟨kin_t4 _ (List.mem_of_getElem? (i := 116) rfl), rfl⟩
theorem kq_4_117 : Cond.selects "Parserpark" yX6_meanTrees yX6_meanTrees ∈ kAL := List.mem_filter.mpr ⟨kin_t4 _ (List.mem_of_getElem? (i := 117) rfl), rfl⟩
theorem kq_4_118 : Cond.code yX6_meanTrees prog_1_method_28_code 6 (some .double) ∈ kAL := List.mem_filter.mpr ⟨kin_t4 _ (List.mem_of_getElem? (i := 118) rfl), rfl⟩
theorem kq_4_119 : Cond.classLink "ParserparkLaw" 106 "ParserparkModel" ∈ kAL := List.mem_filter.mpr ⟨kin_t4 _ (List.mem_of_getElem? (i := 119) rfl), rfl⟩
theorem kq_4_120 : Cond.instantiable "ParserparkModel" 25 ∈ kAL := List.mem_filter.mpr ⟨kin_t4 _ (List.mem_of_getElem? (i := 120) rfl), rfl⟩
theorem kq_4_121 : Cond.methodLink "ParserparkLaw" 108 yX7_init ∈ kAL := List.mem_filter.mpr ⟨kin_t4 _ (List.mem_of_getElem? (i := 121) rfl), rfl⟩
theorem kq_4_122 : Cond.instanceMethod yX7_init ∈ kAL := List.mem_filter.mpr ⟨kin_t4 _ (List.mem_of_getElem? (i := 122) rfl), rfl⟩
theorem kq_4_123 : Cond.code yX7_init prog_9_method_1_code 1 none ∈ kAL := List.mem_filter.mpr ⟨kin_t4 _ (List.mem_of_getElem? (i := 123) rfl), rfl⟩
theorem kq_4_124 : Cond.methodLink "ParserparkModel" 1 (⟨"java/lang/Object", "<init>", "()V"⟩ : MethodName) ∈ kAL := List.mem_filter.mpr ⟨kin_t4 _ (List.mem_of_getElem? (i := 124) rfl), rfl⟩
theorem kq_4_125 : Cond.fieldLink "ParserparkModel" 7 "ParserparkModel" "lefts" "[I" ∈ kAL := List.mem_filter.mpr ⟨kin_t4 _ (List.mem_of_getElem? (i := 125) rfl), rfl⟩
theorem kq_4_126 : Cond.fieldLink "ParserparkModel" 13 "ParserparkModel" "rights" "[I" ∈ kAL := List.mem_filter.mpr ⟨kin_t4 _ (List.mem_of_getElem? (i := 126) rfl), rfl⟩
theorem kq_4_127 : Cond.fieldLink "ParserparkModel" 16 "ParserparkModel" "many" "[I" ∈ kAL := List.mem_filter.mpr ⟨kin_t4 _ (List.mem_of_getElem? (i := 127) rfl), rfl⟩
theorem kq_4_128 : Cond.fieldLink "ParserparkModel" 19 "ParserparkModel" "ranks" "[I" ∈ kAL := List.mem_filter.mpr ⟨kin_t4 _ (List.mem_of_getElem? (i := 128) rfl), rfl⟩
theorem kq_4_129 : Cond.fieldLink "ParserparkModel" 22 "ParserparkModel" "colours" "[I" ∈ kAL := List.mem_filter.mpr ⟨kin_t4 _ (List.mem_of_getElem? (i := 129) rfl), rfl⟩
theorem kq_4_130 : Cond.fieldLink "ParserparkModel" 25 "ParserparkModel" "gaps" "[I" ∈ kAL := List.mem_filter.mpr ⟨kin_t4 _ (List.mem_of_getElem? (i := 130) rfl), rfl⟩
theorem kq_4_131 : Cond.fieldLink "ParserparkModel" 28 "ParserparkModel" "isGone" "[Z" ∈ kAL := List.mem_filter.mpr ⟨kin_t4 _ (List.mem_of_getElem? (i := 131) rfl), rfl⟩
theorem kq_4_132 : Cond.fieldLink "ParserparkModel" 96 "ParserparkModel" "rules" "I" ∈ kAL := List.mem_filter.mpr ⟨kin_t4 _ (List.mem_of_getElem? (i := 132) rfl), rfl⟩
theorem kq_4_133 : Cond.fieldLink "ParserparkModel" 32 "ParserparkModel" "letters" "[I" ∈ kAL := List.mem_filter.mpr ⟨kin_t4 _ (List.mem_of_getElem? (i := 133) rfl), rfl⟩
theorem kq_4_134 : Cond.fieldLink "ParserparkModel" 35 "ParserparkModel" "lengths" "[I" ∈ kAL := List.mem_filter.mpr ⟨kin_t4 _ (List.mem_of_getElem? (i := 134) rfl), rfl⟩
theorem kq_4_135 : Cond.fieldLink "ParserparkModel" 38 "ParserparkModel" "accepted" "[I" ∈ kAL := List.mem_filter.mpr ⟨kin_t4 _ (List.mem_of_getElem? (i := 135) rfl), rfl⟩
theorem kq_4_136 : Cond.fieldLink "ParserparkModel" 41 "ParserparkModel" "acceptedMany" "[I" ∈ kAL := List.mem_filter.mpr ⟨kin_t4 _ (List.mem_of_getElem? (i := 136) rfl), rfl⟩
theorem kq_4_137 : Cond.fieldLink "ParserparkModel" 134 "ParserparkModel" "texts" "I" ∈ kAL := List.mem_filter.mpr ⟨kin_t4 _ (List.mem_of_getElem? (i := 137) rfl), rfl⟩
theorem kq_4_138 : Cond.fieldLink "ParserparkModel" 137 "ParserparkModel" "work" "J" ∈ kAL := List.mem_filter.mpr ⟨kin_t4 _ (List.mem_of_getElem? (i := 138) rfl), rfl⟩
theorem kq_4_139 : Cond.fieldLink "ParserparkModel" 175 "ParserparkModel" "releases" "I" ∈ kAL := List.mem_filter.mpr ⟨kin_t4 _ (List.mem_of_getElem? (i := 139) rfl), rfl⟩
theorem kq_4_140 : Cond.fieldLink "ParserparkModel" 44 "ParserparkModel" "row" "[I" ∈ kAL := List.mem_filter.mpr ⟨kin_t4 _ (List.mem_of_getElem? (i := 140) rfl), rfl⟩
theorem kq_4_141 : Cond.fieldLink "ParserparkModel" 93 "ParserparkModel" "size" "I" ∈ kAL := List.mem_filter.mpr ⟨kin_t4 _ (List.mem_of_getElem? (i := 141) rfl), rfl⟩
theorem kq_4_142 : Cond.fieldLink "ParserparkModel" 47 "ParserparkModel" "counts" "[I" ∈ kAL := List.mem_filter.mpr ⟨kin_t4 _ (List.mem_of_getElem? (i := 142) rfl), rfl⟩
theorem kq_4_143 : Cond.fieldLink "ParserparkModel" 50 "ParserparkModel" "tree" "[I" ∈ kAL := List.mem_filter.mpr ⟨kin_t4 _ (List.mem_of_getElem? (i := 143) rfl), rfl⟩
theorem kq_4_144 : Cond.fieldLink "ParserparkModel" 115 "ParserparkModel" "treeMany" "I" ∈ kAL := List.mem_filter.mpr ⟨kin_t4 _ (List.mem_of_getElem? (i := 144) rfl), rfl⟩
theorem kq_4_145 : Cond.fieldLink "ParserparkModel" 53 "ParserparkModel" "shades" "[I" ∈ kAL := List.mem_filter.mpr ⟨kin_t4 _ (List.mem_of_getElem? (i := 145) rfl), rfl⟩
theorem kq_4_146 : Cond.fieldLink "ParserparkModel" 56 "ParserparkModel" "signs" "[C" ∈ kAL := List.mem_filter.mpr ⟨kin_t4 _ (List.mem_of_getElem? (i := 146) rfl), rfl⟩
theorem kq_4_147 : Cond.fieldLink "ParserparkModel" 109 "ParserparkModel" "signMany" "I" ∈ kAL := List.mem_filter.mpr ⟨kin_t4 _ (List.mem_of_getElem? (i := 147) rfl), rfl⟩
theorem kq_4_148 : Cond.fieldLink "ParserparkModel" 118 "ParserparkModel" "deepest" "I" ∈ kAL := List.mem_filter.mpr ⟨kin_t4 _ (List.mem_of_getElem? (i := 148) rfl), rfl⟩
theorem kq_4_149 : Cond.fieldLink "ParserparkModel" 60 "ParserparkModel" "thrown" "I" ∈ kAL := List.mem_filter.mpr ⟨kin_t4 _ (List.mem_of_getElem? (i := 149) rfl), rfl⟩
theorem kq_4_150 : Cond.laysFinal "ParserparkModel" "ParserparkModel" "lefts" "[I" ∈ kAL := List.mem_filter.mpr ⟨kin_t4 _ (List.mem_of_getElem? (i := 150) rfl), rfl⟩
theorem kq_4_151 : Cond.soleField "ParserparkModel" "lefts" ∈ lw_tbl := kin_t4 _ (List.mem_of_getElem? (i := 151) rfl)
theorem kq_4_152 : Cond.laysFinal "ParserparkModel" "ParserparkModel" "rights" "[I" ∈ kAL := List.mem_filter.mpr ⟨kin_t4 _ (List.mem_of_getElem? (i := 152) rfl), rfl⟩
theorem kq_4_153 : Cond.soleField "ParserparkModel" "rights" ∈ lw_tbl := kin_t4 _ (List.mem_of_getElem? (i := 153) rfl)
theorem kq_4_154 : Cond.laysFinal "ParserparkModel" "ParserparkModel" "many" "[I" ∈ kAL := List.mem_filter.mpr ⟨kin_t4 _ (List.mem_of_getElem? (i := 154) rfl), rfl⟩
theorem kq_4_155 : Cond.soleField "ParserparkModel" "many" ∈ lw_tbl := kin_t4 _ (List.mem_of_getElem? (i := 155) rfl)
theorem kq_4_156 : Cond.laysFinal "ParserparkModel" "ParserparkModel" "ranks" "[I" ∈ kAL := List.mem_filter.mpr ⟨kin_t4 _ (List.mem_of_getElem? (i := 156) rfl), rfl⟩
theorem kq_4_157 : Cond.soleField "ParserparkModel" "ranks" ∈ lw_tbl := kin_t4 _ (List.mem_of_getElem? (i := 157) rfl)
theorem kq_4_158 : Cond.laysFinal "ParserparkModel" "ParserparkModel" "colours" "[I" ∈ kAL := List.mem_filter.mpr ⟨kin_t4 _ (List.mem_of_getElem? (i := 158) rfl), rfl⟩
theorem kq_4_159 : Cond.soleField "ParserparkModel" "colours" ∈ lw_tbl := kin_t4 _ (List.mem_of_getElem? (i := 159) rfl)
theorem kq_4_160 : Cond.laysFinal "ParserparkModel" "ParserparkModel" "gaps" "[I" ∈ kAL := List.mem_filter.mpr ⟨kin_t4 _ (List.mem_of_getElem? (i := 160) rfl), rfl⟩
theorem kq_4_161 : Cond.soleField "ParserparkModel" "gaps" ∈ lw_tbl := kin_t4 _ (List.mem_of_getElem? (i := 161) rfl)
theorem kq_4_162 : Cond.laysFinal "ParserparkModel" "ParserparkModel" "isGone" "[Z" ∈ kAL := List.mem_filter.mpr ⟨kin_t4 _ (List.mem_of_getElem? (i := 162) rfl), rfl⟩
theorem kq_4_163 : Cond.soleField "ParserparkModel" "isGone" ∈ lw_tbl := kin_t4 _ (List.mem_of_getElem? (i := 163) rfl)
theorem kq_4_164 : Cond.lays "ParserparkModel" "ParserparkModel" "rules" "I" ∈ kAL := List.mem_filter.mpr ⟨kin_t4 _ (List.mem_of_getElem? (i := 164) rfl), rfl⟩
theorem kq_4_165 : Cond.soleField "ParserparkModel" "rules" ∈ lw_tbl := kin_t4 _ (List.mem_of_getElem? (i := 165) rfl)
theorem kq_4_166 : Cond.laysFinal "ParserparkModel" "ParserparkModel" "letters" "[I" ∈ kAL := List.mem_filter.mpr ⟨kin_t4 _ (List.mem_of_getElem? (i := 166) rfl), rfl⟩
theorem kq_4_167 : Cond.soleField "ParserparkModel" "letters" ∈ lw_tbl := kin_t4 _ (List.mem_of_getElem? (i := 167) rfl)
theorem kq_4_168 : Cond.laysFinal "ParserparkModel" "ParserparkModel" "lengths" "[I" ∈ kAL := List.mem_filter.mpr ⟨kin_t4 _ (List.mem_of_getElem? (i := 168) rfl), rfl⟩
theorem kq_4_169 : Cond.soleField "ParserparkModel" "lengths" ∈ lw_tbl := kin_t4 _ (List.mem_of_getElem? (i := 169) rfl)
theorem kq_4_170 : Cond.laysFinal "ParserparkModel" "ParserparkModel" "accepted" "[I" ∈ kAL := List.mem_filter.mpr ⟨kin_t4 _ (List.mem_of_getElem? (i := 170) rfl), rfl⟩
theorem kq_4_171 : Cond.soleField "ParserparkModel" "accepted" ∈ lw_tbl := kin_t4 _ (List.mem_of_getElem? (i := 171) rfl)
theorem kq_4_172 : Cond.laysFinal "ParserparkModel" "ParserparkModel" "acceptedMany" "[I" ∈ kAL := List.mem_filter.mpr ⟨kin_t4 _ (List.mem_of_getElem? (i := 172) rfl), rfl⟩
theorem kq_4_173 : Cond.soleField "ParserparkModel" "acceptedMany" ∈ lw_tbl := kin_t4 _ (List.mem_of_getElem? (i := 173) rfl)
theorem kq_4_174 : Cond.lays "ParserparkModel" "ParserparkModel" "texts" "I" ∈ kAL := List.mem_filter.mpr ⟨kin_t4 _ (List.mem_of_getElem? (i := 174) rfl), rfl⟩
theorem kq_4_175 : Cond.soleField "ParserparkModel" "texts" ∈ lw_tbl := kin_t4 _ (List.mem_of_getElem? (i := 175) rfl)
theorem kq_4_176 : Cond.lays "ParserparkModel" "ParserparkModel" "work" "J" ∈ kAL := List.mem_filter.mpr ⟨kin_t4 _ (List.mem_of_getElem? (i := 176) rfl), rfl⟩
theorem kq_4_177 : Cond.soleField "ParserparkModel" "work" ∈ lw_tbl := kin_t4 _ (List.mem_of_getElem? (i := 177) rfl)
theorem kq_4_178 : Cond.lays "ParserparkModel" "ParserparkModel" "releases" "I" ∈ kAL := List.mem_filter.mpr ⟨kin_t4 _ (List.mem_of_getElem? (i := 178) rfl), rfl⟩
theorem kq_4_179 : Cond.soleField "ParserparkModel" "releases" ∈ lw_tbl := kin_t4 _ (List.mem_of_getElem? (i := 179) rfl)
theorem kq_4_180 : Cond.laysFinal "ParserparkModel" "ParserparkModel" "row" "[I" ∈ kAL := List.mem_filter.mpr ⟨kin_t4 _ (List.mem_of_getElem? (i := 180) rfl), rfl⟩
theorem kq_4_181 : Cond.soleField "ParserparkModel" "row" ∈ lw_tbl := kin_t4 _ (List.mem_of_getElem? (i := 181) rfl)
theorem kq_4_182 : Cond.lays "ParserparkModel" "ParserparkModel" "size" "I" ∈ kAL := List.mem_filter.mpr ⟨kin_t4 _ (List.mem_of_getElem? (i := 182) rfl), rfl⟩
theorem kq_4_183 : Cond.soleField "ParserparkModel" "size" ∈ lw_tbl := kin_t4 _ (List.mem_of_getElem? (i := 183) rfl)
theorem kq_4_184 : Cond.laysFinal "ParserparkModel" "ParserparkModel" "counts" "[I" ∈ kAL := List.mem_filter.mpr ⟨kin_t4 _ (List.mem_of_getElem? (i := 184) rfl), rfl⟩
theorem kq_4_185 : Cond.soleField "ParserparkModel" "counts" ∈ lw_tbl := kin_t4 _ (List.mem_of_getElem? (i := 185) rfl)
theorem kq_4_186 : Cond.laysFinal "ParserparkModel" "ParserparkModel" "tree" "[I" ∈ kAL := List.mem_filter.mpr ⟨kin_t4 _ (List.mem_of_getElem? (i := 186) rfl), rfl⟩
theorem kq_4_187 : Cond.soleField "ParserparkModel" "tree" ∈ lw_tbl := kin_t4 _ (List.mem_of_getElem? (i := 187) rfl)
theorem kq_4_188 : Cond.lays "ParserparkModel" "ParserparkModel" "treeMany" "I" ∈ kAL := List.mem_filter.mpr ⟨kin_t4 _ (List.mem_of_getElem? (i := 188) rfl), rfl⟩
theorem kq_4_189 : Cond.soleField "ParserparkModel" "treeMany" ∈ lw_tbl := kin_t4 _ (List.mem_of_getElem? (i := 189) rfl)
theorem kq_4_190 : Cond.laysFinal "ParserparkModel" "ParserparkModel" "shades" "[I" ∈ kAL := List.mem_filter.mpr ⟨kin_t4 _ (List.mem_of_getElem? (i := 190) rfl), rfl⟩
theorem kq_4_191 : Cond.soleField "ParserparkModel" "shades" ∈ lw_tbl := kin_t4 _ (List.mem_of_getElem? (i := 191) rfl)
theorem kq_4_192 : Cond.laysFinal "ParserparkModel" "ParserparkModel" "signs" "[C" ∈ kAL := List.mem_filter.mpr ⟨kin_t4 _ (List.mem_of_getElem? (i := 192) rfl), rfl⟩
theorem kq_4_193 : Cond.soleField "ParserparkModel" "signs" ∈ lw_tbl := kin_t4 _ (List.mem_of_getElem? (i := 193) rfl)
theorem kq_4_194 : Cond.lays "ParserparkModel" "ParserparkModel" "signMany" "I" ∈ kAL := List.mem_filter.mpr ⟨kin_t4 _ (List.mem_of_getElem? (i := 194) rfl), rfl⟩
theorem kq_4_195 : Cond.soleField "ParserparkModel" "signMany" ∈ lw_tbl := kin_t4 _ (List.mem_of_getElem? (i := 195) rfl)
theorem kq_4_196 : Cond.lays "ParserparkModel" "ParserparkModel" "deepest" "I" ∈ kAL := List.mem_filter.mpr ⟨kin_t4 _ (List.mem_of_getElem? (i := 196) rfl), rfl⟩
theorem kq_4_197 : Cond.soleField "ParserparkModel" "deepest" ∈ lw_tbl := kin_t4 _ (List.mem_of_getElem? (i := 197) rfl)
theorem kq_4_198 : Cond.lays "ParserparkModel" "ParserparkModel" "thrown" "I" ∈ kAL := List.mem_filter.mpr ⟨kin_t4 _ (List.mem_of_getElem? (i := 198) rfl), rfl⟩
theorem kq_4_199 : Cond.soleField "ParserparkModel" "thrown" ∈ lw_tbl := kin_t4 _ (List.mem_of_getElem? (i := 199) rfl)
theorem kq_4_200 : Cond.superclass "ParserparkModel" "java/lang/Object" ∈ lw_tbl := kin_t4 _ (List.mem_of_getElem? (i := 200) rfl)
theorem kq_4_201 : Cond.arrayClass .boolean ∈ kAL := List.mem_filter.mpr ⟨kin_t4 _ (List.mem_of_getElem? (i := 201) rfl), rfl⟩
theorem kq_4_202 : Cond.arrayClass .char ∈ kAL := List.mem_filter.mpr ⟨kin_t4 _ (List.mem_of_getElem? (i := 202) rfl), rfl⟩
theorem kq_4_203 : Cond.methodLink "ParserparkLaw" 115 yX7_thrown ∈ kAL := List.mem_filter.mpr ⟨kin_t4 _ (List.mem_of_getElem? (i := 203) rfl), rfl⟩
theorem kq_4_204 : Cond.instanceMethod yX7_thrown ∈ kAL := List.mem_filter.mpr ⟨kin_t4 _ (List.mem_of_getElem? (i := 204) rfl), rfl⟩
theorem kq_4_205 : Cond.selects "ParserparkModel" yX7_thrown yX7_thrown ∈ kAL := List.mem_filter.mpr ⟨kin_t4 _ (List.mem_of_getElem? (i := 205) rfl), rfl⟩
theorem kq_4_206 : Cond.code yX7_thrown prog_9_method_2_code 1 (some .int) ∈ kAL := List.mem_filter.mpr ⟨kin_t4 _ (List.mem_of_getElem? (i := 206) rfl), rfl⟩
theorem kq_4_207 : Cond.methodLink "ParserparkLaw" 114 yX7_addRule ∈ kAL := List.mem_filter.mpr ⟨kin_t4 _ (List.mem_of_getElem? (i := 207) rfl), rfl⟩
theorem kq_4_208 : Cond.instanceMethod yX7_addRule ∈ kAL := List.mem_filter.mpr ⟨kin_t4 _ (List.mem_of_getElem? (i := 208) rfl), rfl⟩
theorem kq_4_209 : Cond.selects "ParserparkModel" yX7_addRule yX7_addRule ∈ kAL := List.mem_filter.mpr ⟨kin_t4 _ (List.mem_of_getElem? (i := 209) rfl), rfl⟩
theorem kq_4_210 : Cond.code yX7_addRule prog_9_method_20_code 6 (some .int) ∈ kAL := List.mem_filter.mpr ⟨kin_t4 _ (List.mem_of_getElem? (i := 210) rfl), rfl⟩
theorem kq_4_211 : Cond.methodLink "ParserparkModel" 74 yX7_isName ∈ kAL := List.mem_filter.mpr ⟨kin_t4 _ (List.mem_of_getElem? (i := 211) rfl), rfl⟩
theorem kq_4_212 : Cond.static yX7_isName ∈ kAL := List.mem_filter.mpr ⟨kin_t4 _ (List.mem_of_getElem? (i := 212) rfl), rfl⟩
theorem kq_4_213 : Cond.code yX7_isName prog_9_method_4_code 1 (some .boolean) ∈ kAL := List.mem_filter.mpr ⟨kin_t4 _ (List.mem_of_getElem? (i := 213) rfl), rfl⟩
theorem kq_4_214 : Cond.constantLong "ParserparkModel" 64 (10 : Int64) ∈ kAL := List.mem_filter.mpr ⟨kin_t4 _ (List.mem_of_getElem? (i := 214) rfl), rfl⟩
theorem kq_4_215 : Cond.constantLong "ParserparkModel" 66 (14 : Int64) ∈ kAL := List.mem_filter.mpr ⟨kin_t4 _ (List.mem_of_getElem? (i := 215) rfl), rfl⟩
theorem kq_4_216 : Cond.methodLink "ParserparkModel" 68 yX7_in ∈ kAL := List.mem_filter.mpr ⟨kin_t4 _ (List.mem_of_getElem? (i := 216) rfl), rfl⟩
theorem kq_4_217 : Cond.static yX7_in ∈ kAL := List.mem_filter.mpr ⟨kin_t4 _ (List.mem_of_getElem? (i := 217) rfl), rfl⟩
theorem kq_4_218 : Cond.code yX7_in prog_9_method_3_code 6 (some .boolean) ∈ kAL := List.mem_filter.mpr ⟨kin_t4 _ (List.mem_of_getElem? (i := 218) rfl), rfl⟩
theorem kq_4_219 : Cond.methodLink "ParserparkModel" 141 yX7_isSymbol ∈ kAL := List.mem_filter.mpr ⟨kin_t4 _ (List.mem_of_getElem? (i := 219) rfl), rfl⟩
theorem kq_4_220 : Cond.static yX7_isSymbol ∈ kAL := List.mem_filter.mpr ⟨kin_t4 _ (List.mem_of_getElem? (i := 220) rfl), rfl⟩
theorem kq_4_221 : Cond.code yX7_isSymbol prog_9_method_6_code 1 (some .boolean) ∈ kAL := List.mem_filter.mpr ⟨kin_t4 _ (List.mem_of_getElem? (i := 221) rfl), rfl⟩
theorem kq_4_222 : Cond.methodLink "ParserparkModel" 78 yX7_isLetter ∈ kAL := List.mem_filter.mpr ⟨kin_t4 _ (List.mem_of_getElem? (i := 222) rfl), rfl⟩
theorem kq_4_223 : Cond.static yX7_isLetter ∈ kAL := List.mem_filter.mpr ⟨kin_t4 _ (List.mem_of_getElem? (i := 223) rfl), rfl⟩
theorem kq_4_224 : Cond.code yX7_isLetter prog_9_method_5_code 1 (some .boolean) ∈ kAL := List.mem_filter.mpr ⟨kin_t4 _ (List.mem_of_getElem? (i := 224) rfl), rfl⟩
theorem kq_4_225 : Cond.constantLong "ParserparkModel" 72 (7 : Int64) ∈ kAL := List.mem_filter.mpr ⟨kin_t4 _ (List.mem_of_getElem? (i := 225) rfl), rfl⟩
theorem kq_4_226 : Cond.methodLink "ParserparkModel" 144 yX7_touched ∈ kAL := List.mem_filter.mpr ⟨kin_t4 _ (List.mem_of_getElem? (i := 226) rfl), rfl⟩
theorem kq_4_227 : Cond.privateMethod yX7_touched ∈ lw_tbl := kin_t4 _ (List.mem_of_getElem? (i := 227) rfl)
theorem kq_4_228 : Cond.instanceMethod yX7_touched ∈ kAL := List.mem_filter.mpr ⟨kin_t4 _ (List.mem_of_getElem? (i := 228) rfl), rfl⟩
theorem kq_4_229 : Cond.code yX7_touched prog_9_method_19_code 9 (some .int) ∈ kAL := List.mem_filter.mpr ⟨kin_t4 _ (List.mem_of_getElem? (i := 229) rfl), rfl⟩
theorem kq_4_230 : Cond.methodLink "ParserparkLaw" 121 yX7_dropRule ∈ kAL := List.mem_filter.mpr ⟨kin_t4 _ (List.mem_of_getElem? (i := 230) rfl), rfl⟩
theorem kq_4_231 : Cond.instanceMethod yX7_dropRule ∈ kAL := List.mem_filter.mpr ⟨kin_t4 _ (List.mem_of_getElem? (i := 231) rfl), rfl⟩
theorem kq_4_232 : Cond.selects "ParserparkModel" yX7_dropRule yX7_dropRule ∈ kAL := List.mem_filter.mpr ⟨kin_t4 _ (List.mem_of_getElem? (i := 232) rfl), rfl⟩
theorem kq_4_233 : Cond.code yX7_dropRule prog_9_method_22_code 2 (some .int) ∈ kAL := List.mem_filter.mpr ⟨kin_t4 _ (List.mem_of_getElem? (i := 233) rfl), rfl⟩
theorem kq_4_234 : Cond.methodLink "ParserparkModel" 147 yX7_isRule ∈ kAL := List.mem_filter.mpr ⟨kin_t4 _ (List.mem_of_getElem? (i := 234) rfl), rfl⟩
theorem kq_4_235 : Cond.privateMethod yX7_isRule ∈ lw_tbl := kin_t4 _ (List.mem_of_getElem? (i := 235) rfl)
theorem kq_4_236 : Cond.instanceMethod yX7_isRule ∈ kAL := List.mem_filter.mpr ⟨kin_t4 _ (List.mem_of_getElem? (i := 236) rfl), rfl⟩
theorem kq_4_237 : Cond.code yX7_isRule prog_9_method_21_code 2 (some .boolean) ∈ kAL := List.mem_filter.mpr ⟨kin_t4 _ (List.mem_of_getElem? (i := 237) rfl), rfl⟩
theorem kq_4_238 : Cond.methodLink "ParserparkLaw" 125 yX7_setRank ∈ kAL := List.mem_filter.mpr ⟨kin_t4 _ (List.mem_of_getElem? (i := 238) rfl), rfl⟩
theorem kq_4_239 : Cond.instanceMethod yX7_setRank ∈ kAL := List.mem_filter.mpr ⟨kin_t4 _ (List.mem_of_getElem? (i := 239) rfl), rfl⟩
theorem kq_5_0 : Cond.selects "ParserparkModel" yX7_setRank yX7_setRank ∈ kAL := List.mem_filter.mpr ⟨kin_t5 _ (List.mem_of_getElem? (i := 0) rfl), rfl⟩
theorem kq_5_1 : Cond.code yX7_setRank prog_9_method_23_code 4 (some .int) ∈ kAL := List.mem_filter.mpr ⟨kin_t5 _ (List.mem_of_getElem? (i := 1) rfl), rfl⟩
theorem kq_5_2 : Cond.constantLong "ParserparkModel" 150 (9 : Int64) ∈ kAL := List.mem_filter.mpr ⟨kin_t5 _ (List.mem_of_getElem? (i := 2) rfl), rfl⟩
theorem kq_5_3 : Cond.methodLink "ParserparkLaw" 129 yX7_setStyle ∈ kAL := List.mem_filter.mpr ⟨kin_t5 _ (List.mem_of_getElem? (i := 3) rfl), rfl⟩
theorem kq_5_4 : Cond.instanceMethod yX7_setStyle ∈ kAL := List.mem_filter.mpr ⟨kin_t5 _ (List.mem_of_getElem? (i := 4) rfl), rfl⟩
theorem kq_5_5 : Cond.selects "ParserparkModel" yX7_setStyle yX7_setStyle ∈ kAL := List.mem_filter.mpr ⟨kin_t5 _ (List.mem_of_getElem? (i := 5) rfl), rfl⟩
theorem kq_5_6 : Cond.code yX7_setStyle prog_9_method_24_code 5 (some .int) ∈ kAL := List.mem_filter.mpr ⟨kin_t5 _ (List.mem_of_getElem? (i := 6) rfl), rfl⟩
theorem kq_5_7 : Cond.constantLong "ParserparkModel" 152 (3 : Int64) ∈ kAL := List.mem_filter.mpr ⟨kin_t5 _ (List.mem_of_getElem? (i := 7) rfl), rfl⟩
theorem kq_5_8 : Cond.methodLink "ParserparkLaw" 133 yX7_rules ∈ kAL := List.mem_filter.mpr ⟨kin_t5 _ (List.mem_of_getElem? (i := 8) rfl), rfl⟩
theorem kq_5_9 : Cond.instanceMethod yX7_rules ∈ kAL := List.mem_filter.mpr ⟨kin_t5 _ (List.mem_of_getElem? (i := 9) rfl), rfl⟩
theorem kq_5_10 : Cond.selects "ParserparkModel" yX7_rules yX7_rules ∈ kAL := List.mem_filter.mpr ⟨kin_t5 _ (List.mem_of_getElem? (i := 10) rfl), rfl⟩
theorem kq_5_11 : Cond.code yX7_rules prog_9_method_25_code 3 (some .int) ∈ kAL := List.mem_filter.mpr ⟨kin_t5 _ (List.mem_of_getElem? (i := 11) rfl), rfl⟩
theorem kq_5_12 : Cond.methodLink "ParserparkLaw" 136 yX7_addText ∈ kAL := List.mem_filter.mpr ⟨kin_t5 _ (List.mem_of_getElem? (i := 12) rfl), rfl⟩
theorem kq_5_13 : Cond.instanceMethod yX7_addText ∈ kAL := List.mem_filter.mpr ⟨kin_t5 _ (List.mem_of_getElem? (i := 13) rfl), rfl⟩
theorem kq_5_14 : Cond.selects "ParserparkModel" yX7_addText yX7_addText ∈ kAL := List.mem_filter.mpr ⟨kin_t5 _ (List.mem_of_getElem? (i := 14) rfl), rfl⟩
theorem kq_5_15 : Cond.code yX7_addText prog_9_method_26_code 2 (some .int) ∈ kAL := List.mem_filter.mpr ⟨kin_t5 _ (List.mem_of_getElem? (i := 15) rfl), rfl⟩
theorem kq_5_16 : Cond.methodLink "ParserparkLaw" 139 yX7_addLetter ∈ kAL := List.mem_filter.mpr ⟨kin_t5 _ (List.mem_of_getElem? (i := 16) rfl), rfl⟩
theorem kq_5_17 : Cond.instanceMethod yX7_addLetter ∈ kAL := List.mem_filter.mpr ⟨kin_t5 _ (List.mem_of_getElem? (i := 17) rfl), rfl⟩
theorem kq_5_18 : Cond.selects "ParserparkModel" yX7_addLetter yX7_addLetter ∈ kAL := List.mem_filter.mpr ⟨kin_t5 _ (List.mem_of_getElem? (i := 18) rfl), rfl⟩
theorem kq_5_19 : Cond.code yX7_addLetter prog_9_method_28_code 3 (some .int) ∈ kAL := List.mem_filter.mpr ⟨kin_t5 _ (List.mem_of_getElem? (i := 19) rfl), rfl⟩
theorem kq_5_20 : Cond.methodLink "ParserparkModel" 154 yX7_isText ∈ kAL := List.mem_filter.mpr ⟨kin_t5 _ (List.mem_of_getElem? (i := 20) rfl), rfl⟩
theorem kq_5_21 : Cond.privateMethod yX7_isText ∈ lw_tbl := kin_t5 _ (List.mem_of_getElem? (i := 21) rfl)
theorem kq_5_22 : Cond.instanceMethod yX7_isText ∈ kAL := List.mem_filter.mpr ⟨kin_t5 _ (List.mem_of_getElem? (i := 22) rfl), rfl⟩
theorem kq_5_23 : Cond.code yX7_isText prog_9_method_27_code 2 (some .boolean) ∈ kAL := List.mem_filter.mpr ⟨kin_t5 _ (List.mem_of_getElem? (i := 23) rfl), rfl⟩
theorem kq_5_24 : Cond.methodLink "ParserparkModel" 131 yX7_laysText ∈ kAL := List.mem_filter.mpr ⟨kin_t5 _ (List.mem_of_getElem? (i := 24) rfl), rfl⟩
theorem kq_5_25 : Cond.privateMethod yX7_laysText ∈ lw_tbl := kin_t5 _ (List.mem_of_getElem? (i := 25) rfl)
theorem kq_5_26 : Cond.instanceMethod yX7_laysText ∈ kAL := List.mem_filter.mpr ⟨kin_t5 _ (List.mem_of_getElem? (i := 26) rfl), rfl⟩
theorem kq_5_27 : Cond.code yX7_laysText prog_9_method_12_code 3 (some .int) ∈ kAL := List.mem_filter.mpr ⟨kin_t5 _ (List.mem_of_getElem? (i := 27) rfl), rfl⟩
theorem kq_5_28 : Cond.methodLink "ParserparkModel" 102 yX7_lays ∈ kAL := List.mem_filter.mpr ⟨kin_t5 _ (List.mem_of_getElem? (i := 28) rfl), rfl⟩
theorem kq_5_29 : Cond.privateMethod yX7_lays ∈ lw_tbl := kin_t5 _ (List.mem_of_getElem? (i := 29) rfl)
theorem kq_5_30 : Cond.instanceMethod yX7_lays ∈ kAL := List.mem_filter.mpr ⟨kin_t5 _ (List.mem_of_getElem? (i := 30) rfl), rfl⟩
theorem kq_5_31 : Cond.code yX7_lays prog_9_method_11_code 7 none ∈ kAL := List.mem_filter.mpr ⟨kin_t5 _ (List.mem_of_getElem? (i := 31) rfl), rfl⟩
theorem kq_5_32 : Cond.methodLink "ParserparkModel" 99 yX7_ways ∈ kAL := List.mem_filter.mpr ⟨kin_t5 _ (List.mem_of_getElem? (i := 32) rfl), rfl⟩
theorem kq_5_33 : Cond.privateMethod yX7_ways ∈ lw_tbl := kin_t5 _ (List.mem_of_getElem? (i := 33) rfl)
theorem kq_5_34 : Cond.instanceMethod yX7_ways ∈ kAL := List.mem_filter.mpr ⟨kin_t5 _ (List.mem_of_getElem? (i := 34) rfl), rfl⟩
theorem kq_5_35 : Cond.code yX7_ways prog_9_method_10_code 7 (some .int) ∈ kAL := List.mem_filter.mpr ⟨kin_t5 _ (List.mem_of_getElem? (i := 35) rfl), rfl⟩
theorem kq_5_36 : Cond.methodLink "ParserparkModel" 81 yX7_part ∈ kAL := List.mem_filter.mpr ⟨kin_t5 _ (List.mem_of_getElem? (i := 36) rfl), rfl⟩
theorem kq_5_37 : Cond.privateMethod yX7_part ∈ lw_tbl := kin_t5 _ (List.mem_of_getElem? (i := 37) rfl)
theorem kq_5_38 : Cond.instanceMethod yX7_part ∈ kAL := List.mem_filter.mpr ⟨kin_t5 _ (List.mem_of_getElem? (i := 38) rfl), rfl⟩
theorem kq_5_39 : Cond.code yX7_part prog_9_method_8_code 4 (some .int) ∈ kAL := List.mem_filter.mpr ⟨kin_t5 _ (List.mem_of_getElem? (i := 39) rfl), rfl⟩
theorem kq_5_40 : Cond.methodLink "ParserparkModel" 89 yX7_twoParts ∈ kAL := List.mem_filter.mpr ⟨kin_t5 _ (List.mem_of_getElem? (i := 40) rfl), rfl⟩
theorem kq_5_41 : Cond.privateMethod yX7_twoParts ∈ lw_tbl := kin_t5 _ (List.mem_of_getElem? (i := 41) rfl)
theorem kq_5_42 : Cond.instanceMethod yX7_twoParts ∈ kAL := List.mem_filter.mpr ⟨kin_t5 _ (List.mem_of_getElem? (i := 42) rfl), rfl⟩
theorem kq_5_43 : Cond.code yX7_twoParts prog_9_method_9_code 7 (some .int) ∈ kAL := List.mem_filter.mpr ⟨kin_t5 _ (List.mem_of_getElem? (i := 43) rfl), rfl⟩
theorem kq_5_44 : Cond.methodLink "ParserparkModel" 85 yX7_held ∈ kAL := List.mem_filter.mpr ⟨kin_t5 _ (List.mem_of_getElem? (i := 44) rfl), rfl⟩
theorem kq_5_45 : Cond.static yX7_held ∈ kAL := List.mem_filter.mpr ⟨kin_t5 _ (List.mem_of_getElem? (i := 45) rfl), rfl⟩
theorem kq_5_46 : Cond.code yX7_held prog_9_method_7_code 1 (some .int) ∈ kAL := List.mem_filter.mpr ⟨kin_t5 _ (List.mem_of_getElem? (i := 46) rfl), rfl⟩
theorem kq_5_47 : Cond.methodLink "ParserparkLaw" 142 yX7_replace ∈ kAL := List.mem_filter.mpr ⟨kin_t5 _ (List.mem_of_getElem? (i := 47) rfl), rfl⟩
theorem kq_5_48 : Cond.instanceMethod yX7_replace ∈ kAL := List.mem_filter.mpr ⟨kin_t5 _ (List.mem_of_getElem? (i := 48) rfl), rfl⟩
theorem kq_5_49 : Cond.selects "ParserparkModel" yX7_replace yX7_replace ∈ kAL := List.mem_filter.mpr ⟨kin_t5 _ (List.mem_of_getElem? (i := 49) rfl), rfl⟩
theorem kq_5_50 : Cond.code yX7_replace prog_9_method_30_code 4 (some .int) ∈ kAL := List.mem_filter.mpr ⟨kin_t5 _ (List.mem_of_getElem? (i := 50) rfl), rfl⟩
theorem kq_5_51 : Cond.methodLink "ParserparkModel" 157 yX7_isPlace ∈ kAL := List.mem_filter.mpr ⟨kin_t5 _ (List.mem_of_getElem? (i := 51) rfl), rfl⟩
theorem kq_5_52 : Cond.privateMethod yX7_isPlace ∈ lw_tbl := kin_t5 _ (List.mem_of_getElem? (i := 52) rfl)
theorem kq_5_53 : Cond.instanceMethod yX7_isPlace ∈ kAL := List.mem_filter.mpr ⟨kin_t5 _ (List.mem_of_getElem? (i := 53) rfl), rfl⟩
theorem kq_5_54 : Cond.code yX7_isPlace prog_9_method_29_code 3 (some .boolean) ∈ kAL := List.mem_filter.mpr ⟨kin_t5 _ (List.mem_of_getElem? (i := 54) rfl), rfl⟩
theorem kq_5_55 : Cond.methodLink "ParserparkLaw" 145 yX7_length ∈ kAL := List.mem_filter.mpr ⟨kin_t5 _ (List.mem_of_getElem? (i := 55) rfl), rfl⟩
theorem kq_5_56 : Cond.instanceMethod yX7_length ∈ kAL := List.mem_filter.mpr ⟨kin_t5 _ (List.mem_of_getElem? (i := 56) rfl), rfl⟩
theorem kq_5_57 : Cond.selects "ParserparkModel" yX7_length yX7_length ∈ kAL := List.mem_filter.mpr ⟨kin_t5 _ (List.mem_of_getElem? (i := 57) rfl), rfl⟩
theorem kq_5_58 : Cond.code yX7_length prog_9_method_32_code 2 (some .int) ∈ kAL := List.mem_filter.mpr ⟨kin_t5 _ (List.mem_of_getElem? (i := 58) rfl), rfl⟩
theorem kq_5_59 : Cond.methodLink "ParserparkModel" 161 yX7_asks ∈ kAL := List.mem_filter.mpr ⟨kin_t5 _ (List.mem_of_getElem? (i := 59) rfl), rfl⟩
theorem kq_5_60 : Cond.privateMethod yX7_asks ∈ lw_tbl := kin_t5 _ (List.mem_of_getElem? (i := 60) rfl)
theorem kq_5_61 : Cond.instanceMethod yX7_asks ∈ kAL := List.mem_filter.mpr ⟨kin_t5 _ (List.mem_of_getElem? (i := 61) rfl), rfl⟩
theorem kq_5_62 : Cond.code yX7_asks prog_9_method_31_code 2 (some .boolean) ∈ kAL := List.mem_filter.mpr ⟨kin_t5 _ (List.mem_of_getElem? (i := 62) rfl), rfl⟩
theorem kq_5_63 : Cond.methodLink "ParserparkLaw" 148 yX7_letterAt ∈ kAL := List.mem_filter.mpr ⟨kin_t5 _ (List.mem_of_getElem? (i := 63) rfl), rfl⟩
theorem kq_5_64 : Cond.instanceMethod yX7_letterAt ∈ kAL := List.mem_filter.mpr ⟨kin_t5 _ (List.mem_of_getElem? (i := 64) rfl), rfl⟩
theorem kq_5_65 : Cond.selects "ParserparkModel" yX7_letterAt yX7_letterAt ∈ kAL := List.mem_filter.mpr ⟨kin_t5 _ (List.mem_of_getElem? (i := 65) rfl), rfl⟩
theorem kq_5_66 : Cond.code yX7_letterAt prog_9_method_33_code 3 (some .int) ∈ kAL := List.mem_filter.mpr ⟨kin_t5 _ (List.mem_of_getElem? (i := 66) rfl), rfl⟩
theorem kq_5_67 : Cond.methodLink "ParserparkLaw" 151 yX7_trees ∈ kAL := List.mem_filter.mpr ⟨kin_t5 _ (List.mem_of_getElem? (i := 67) rfl), rfl⟩
theorem kq_5_68 : Cond.instanceMethod yX7_trees ∈ kAL := List.mem_filter.mpr ⟨kin_t5 _ (List.mem_of_getElem? (i := 68) rfl), rfl⟩
theorem kq_5_69 : Cond.selects "ParserparkModel" yX7_trees yX7_trees ∈ kAL := List.mem_filter.mpr ⟨kin_t5 _ (List.mem_of_getElem? (i := 69) rfl), rfl⟩
theorem kq_5_70 : Cond.code yX7_trees prog_9_method_34_code 2 (some .int) ∈ kAL := List.mem_filter.mpr ⟨kin_t5 _ (List.mem_of_getElem? (i := 70) rfl), rfl⟩
theorem kq_5_71 : Cond.methodLink "ParserparkLaw" 154 yX7_treesByTrying ∈ kAL := List.mem_filter.mpr ⟨kin_t5 _ (List.mem_of_getElem? (i := 71) rfl), rfl⟩
theorem kq_5_72 : Cond.instanceMethod yX7_treesByTrying ∈ kAL := List.mem_filter.mpr ⟨kin_t5 _ (List.mem_of_getElem? (i := 72) rfl), rfl⟩
theorem kq_5_73 : Cond.selects "ParserparkModel" yX7_treesByTrying yX7_treesByTrying ∈ kAL := List.mem_filter.mpr ⟨kin_t5 _ (List.mem_of_getElem? (i := 73) rfl), rfl⟩
theorem kq_5_74 : Cond.code yX7_treesByTrying prog_9_method_35_code 2 (some .int) ∈ kAL := List.mem_filter.mpr ⟨kin_t5 _ (List.mem_of_getElem? (i := 74) rfl), rfl⟩
theorem kq_5_75 : Cond.methodLink "ParserparkLaw" 157 yX7_treesOver ∈ kAL := List.mem_filter.mpr ⟨kin_t5 _ (List.mem_of_getElem? (i := 75) rfl), rfl⟩
theorem kq_5_76 : Cond.instanceMethod yX7_treesOver ∈ kAL := List.mem_filter.mpr ⟨kin_t5 _ (List.mem_of_getElem? (i := 76) rfl), rfl⟩
theorem kq_5_77 : Cond.selects "ParserparkModel" yX7_treesOver yX7_treesOver ∈ kAL := List.mem_filter.mpr ⟨kin_t5 _ (List.mem_of_getElem? (i := 77) rfl), rfl⟩
theorem kq_5_78 : Cond.code yX7_treesOver prog_9_method_36_code 6 (some .int) ∈ kAL := List.mem_filter.mpr ⟨kin_t5 _ (List.mem_of_getElem? (i := 78) rfl), rfl⟩
theorem kq_5_79 : Cond.methodLink "ParserparkLaw" 160 yX7_size ∈ kAL := List.mem_filter.mpr ⟨kin_t5 _ (List.mem_of_getElem? (i := 79) rfl), rfl⟩
theorem kq_5_80 : Cond.instanceMethod yX7_size ∈ kAL := List.mem_filter.mpr ⟨kin_t5 _ (List.mem_of_getElem? (i := 80) rfl), rfl⟩
theorem kq_5_81 : Cond.selects "ParserparkModel" yX7_size yX7_size ∈ kAL := List.mem_filter.mpr ⟨kin_t5 _ (List.mem_of_getElem? (i := 81) rfl), rfl⟩
theorem kq_5_82 : Cond.code yX7_size prog_9_method_37_code 2 (some .int) ∈ kAL := List.mem_filter.mpr ⟨kin_t5 _ (List.mem_of_getElem? (i := 82) rfl), rfl⟩
theorem kq_5_83 : Cond.methodLink "ParserparkModel" 164 yX7_walksText ∈ kAL := List.mem_filter.mpr ⟨kin_t5 _ (List.mem_of_getElem? (i := 83) rfl), rfl⟩
theorem kq_5_84 : Cond.privateMethod yX7_walksText ∈ lw_tbl := kin_t5 _ (List.mem_of_getElem? (i := 84) rfl)
theorem kq_5_85 : Cond.instanceMethod yX7_walksText ∈ kAL := List.mem_filter.mpr ⟨kin_t5 _ (List.mem_of_getElem? (i := 85) rfl), rfl⟩
theorem kq_5_86 : Cond.code yX7_walksText prog_9_method_18_code 4 (some .int) ∈ kAL := List.mem_filter.mpr ⟨kin_t5 _ (List.mem_of_getElem? (i := 86) rfl), rfl⟩
theorem kq_5_87 : Cond.methodLink "ParserparkModel" 105 yX7_walks ∈ kAL := List.mem_filter.mpr ⟨kin_t5 _ (List.mem_of_getElem? (i := 87) rfl), rfl⟩
theorem kq_5_88 : Cond.privateMethod yX7_walks ∈ lw_tbl := kin_t5 _ (List.mem_of_getElem? (i := 88) rfl)
theorem kq_5_89 : Cond.instanceMethod yX7_walks ∈ kAL := List.mem_filter.mpr ⟨kin_t5 _ (List.mem_of_getElem? (i := 89) rfl), rfl⟩
theorem kq_5_90 : Cond.code yX7_walks prog_9_method_17_code 11 none ∈ kAL := List.mem_filter.mpr ⟨kin_t5 _ (List.mem_of_getElem? (i := 90) rfl), rfl⟩
theorem kq_5_91 : Cond.methodLink "ParserparkModel" 112 yX7_chosen ∈ kAL := List.mem_filter.mpr ⟨kin_t5 _ (List.mem_of_getElem? (i := 91) rfl), rfl⟩
theorem kq_5_92 : Cond.privateMethod yX7_chosen ∈ lw_tbl := kin_t5 _ (List.mem_of_getElem? (i := 92) rfl)
theorem kq_5_93 : Cond.instanceMethod yX7_chosen ∈ kAL := List.mem_filter.mpr ⟨kin_t5 _ (List.mem_of_getElem? (i := 93) rfl), rfl⟩
theorem kq_5_94 : Cond.code yX7_chosen prog_9_method_13_code 7 (some .int) ∈ kAL := List.mem_filter.mpr ⟨kin_t5 _ (List.mem_of_getElem? (i := 94) rfl), rfl⟩
theorem kq_5_95 : Cond.methodLink "ParserparkModel" 121 yX7_sees ∈ kAL := List.mem_filter.mpr ⟨kin_t5 _ (List.mem_of_getElem? (i := 95) rfl), rfl⟩
theorem kq_5_96 : Cond.privateMethod yX7_sees ∈ lw_tbl := kin_t5 _ (List.mem_of_getElem? (i := 96) rfl)
theorem kq_5_97 : Cond.instanceMethod yX7_sees ∈ kAL := List.mem_filter.mpr ⟨kin_t5 _ (List.mem_of_getElem? (i := 97) rfl), rfl⟩
theorem kq_5_98 : Cond.code yX7_sees prog_9_method_14_code 6 none ∈ kAL := List.mem_filter.mpr ⟨kin_t5 _ (List.mem_of_getElem? (i := 98) rfl), rfl⟩
theorem kq_5_99 : Cond.methodLink "ParserparkModel" 124 yX7_cut ∈ kAL := List.mem_filter.mpr ⟨kin_t5 _ (List.mem_of_getElem? (i := 99) rfl), rfl⟩
theorem kq_5_100 : Cond.privateMethod yX7_cut ∈ lw_tbl := kin_t5 _ (List.mem_of_getElem? (i := 100) rfl)
theorem kq_5_101 : Cond.instanceMethod yX7_cut ∈ kAL := List.mem_filter.mpr ⟨kin_t5 _ (List.mem_of_getElem? (i := 101) rfl), rfl⟩
theorem kq_5_102 : Cond.code yX7_cut prog_9_method_16_code 6 (some .int) ∈ kAL := List.mem_filter.mpr ⟨kin_t5 _ (List.mem_of_getElem? (i := 102) rfl), rfl⟩
theorem kq_5_103 : Cond.methodLink "ParserparkModel" 127 yX7_blanks ∈ kAL := List.mem_filter.mpr ⟨kin_t5 _ (List.mem_of_getElem? (i := 103) rfl), rfl⟩
theorem kq_5_104 : Cond.privateMethod yX7_blanks ∈ lw_tbl := kin_t5 _ (List.mem_of_getElem? (i := 104) rfl)
theorem kq_5_105 : Cond.instanceMethod yX7_blanks ∈ kAL := List.mem_filter.mpr ⟨kin_t5 _ (List.mem_of_getElem? (i := 105) rfl), rfl⟩
theorem kq_5_106 : Cond.code yX7_blanks prog_9_method_15_code 3 none ∈ kAL := List.mem_filter.mpr ⟨kin_t5 _ (List.mem_of_getElem? (i := 106) rfl), rfl⟩
theorem kq_5_107 : Cond.methodLink "ParserparkLaw" 163 yX7_ruleAt ∈ kAL := List.mem_filter.mpr ⟨kin_t5 _ (List.mem_of_getElem? (i := 107) rfl), rfl⟩
theorem kq_5_108 : Cond.instanceMethod yX7_ruleAt ∈ kAL := List.mem_filter.mpr ⟨kin_t5 _ (List.mem_of_getElem? (i := 108) rfl), rfl⟩
theorem kq_5_109 : Cond.selects "ParserparkModel" yX7_ruleAt yX7_ruleAt ∈ kAL := List.mem_filter.mpr ⟨kin_t5 _ (List.mem_of_getElem? (i := 109) rfl), rfl⟩
theorem kq_5_110 : Cond.code yX7_ruleAt prog_9_method_38_code 3 (some .int) ∈ kAL := List.mem_filter.mpr ⟨kin_t5 _ (List.mem_of_getElem? (i := 110) rfl), rfl⟩
theorem kq_5_111 : Cond.methodLink "ParserparkLaw" 166 yX7_depth ∈ kAL := List.mem_filter.mpr ⟨kin_t5 _ (List.mem_of_getElem? (i := 111) rfl), rfl⟩
theorem kq_5_112 : Cond.instanceMethod yX7_depth ∈ kAL := List.mem_filter.mpr ⟨kin_t5 _ (List.mem_of_getElem? (i := 112) rfl), rfl⟩
theorem kq_5_113 : Cond.selects "ParserparkModel" yX7_depth yX7_depth ∈ kAL := List.mem_filter.mpr ⟨kin_t5 _ (List.mem_of_getElem? (i := 113) rfl), rfl⟩
theorem kq_5_114 : Cond.code yX7_depth prog_9_method_39_code 2 (some .int) ∈ kAL := List.mem_filter.mpr ⟨kin_t5 _ (List.mem_of_getElem? (i := 114) rfl), rfl⟩
theorem kq_5_115 : Cond.methodLink "ParserparkLaw" 169 yX7_colourAt ∈ kAL := List.mem_filter.mpr ⟨kin_t5 _ (List.mem_of_getElem? (i := 115) rfl), rfl⟩
theorem kq_5_116 : Cond.instanceMethod yX7_colourAt ∈ kAL := List.mem_filter.mpr ⟨kin_t5 _ (List.mem_of_getElem? (i := 116) rfl), rfl⟩
theorem kq_5_117 : Cond.selects "ParserparkModel" yX7_colourAt yX7_colourAt ∈ kAL := List.mem_filter.mpr ⟨kin_t5 _ (List.mem_of_getElem? (i := 117) rfl), rfl⟩
theorem kq_5_118 : Cond.code yX7_colourAt prog_9_method_40_code 3 (some .int) ∈ kAL := List.mem_filter.mpr ⟨kin_t5 _ (List.mem_of_getElem? (i := 118) rfl), rfl⟩
theorem kq_5_119 : Cond.methodLink "ParserparkLaw" 172 yX7_formatted ∈ kAL := List.mem_filter.mpr ⟨kin_t5 _ (List.mem_of_getElem? (i := 119) rfl), rfl⟩
theorem kq_5_120 : Cond.instanceMethod yX7_formatted ∈ kAL := List.mem_filter.mpr ⟨kin_t5 _ (List.mem_of_getElem? (i := 120) rfl), rfl⟩
theorem kq_5_121 : Cond.selects "ParserparkModel" yX7_formatted yX7_formatted ∈ kAL := List.mem_filter.mpr ⟨kin_t5 _ (List.mem_of_getElem? (i := 121) rfl), rfl⟩
theorem kq_5_122 : Cond.code yX7_formatted prog_9_method_41_code 2 (some .int) ∈ kAL := List.mem_filter.mpr ⟨kin_t5 _ (List.mem_of_getElem? (i := 122) rfl), rfl⟩
theorem kq_5_123 : Cond.methodLink "ParserparkLaw" 175 yX7_formattedAt ∈ kAL := List.mem_filter.mpr ⟨kin_t5 _ (List.mem_of_getElem? (i := 123) rfl), rfl⟩
theorem kq_5_124 : Cond.instanceMethod yX7_formattedAt ∈ kAL := List.mem_filter.mpr ⟨kin_t5 _ (List.mem_of_getElem? (i := 124) rfl), rfl⟩
theorem kq_5_125 : Cond.selects "ParserparkModel" yX7_formattedAt yX7_formattedAt ∈ kAL := List.mem_filter.mpr ⟨kin_t5 _ (List.mem_of_getElem? (i := 125) rfl), rfl⟩
theorem kq_5_126 : Cond.code yX7_formattedAt prog_9_method_42_code 3 (some .char) ∈ kAL := List.mem_filter.mpr ⟨kin_t5 _ (List.mem_of_getElem? (i := 126) rfl), rfl⟩
theorem kq_5_127 : Cond.methodLink "ParserparkLaw" 178 yX7_accept ∈ kAL := List.mem_filter.mpr ⟨kin_t5 _ (List.mem_of_getElem? (i := 127) rfl), rfl⟩
theorem kq_5_128 : Cond.instanceMethod yX7_accept ∈ kAL := List.mem_filter.mpr ⟨kin_t5 _ (List.mem_of_getElem? (i := 128) rfl), rfl⟩
theorem kq_5_129 : Cond.selects "ParserparkModel" yX7_accept yX7_accept ∈ kAL := List.mem_filter.mpr ⟨kin_t5 _ (List.mem_of_getElem? (i := 129) rfl), rfl⟩
theorem kq_5_130 : Cond.code yX7_accept prog_9_method_43_code 3 (some .int) ∈ kAL := List.mem_filter.mpr ⟨kin_t5 _ (List.mem_of_getElem? (i := 130) rfl), rfl⟩
theorem kq_5_131 : Cond.methodLink "ParserparkLaw" 181 yX7_fault ∈ kAL := List.mem_filter.mpr ⟨kin_t5 _ (List.mem_of_getElem? (i := 131) rfl), rfl⟩
theorem kq_5_132 : Cond.instanceMethod yX7_fault ∈ kAL := List.mem_filter.mpr ⟨kin_t5 _ (List.mem_of_getElem? (i := 132) rfl), rfl⟩
theorem kq_5_133 : Cond.selects "ParserparkModel" yX7_fault yX7_fault ∈ kAL := List.mem_filter.mpr ⟨kin_t5 _ (List.mem_of_getElem? (i := 133) rfl), rfl⟩
theorem kq_5_134 : Cond.code yX7_fault prog_9_method_45_code 2 (some .char) ∈ kAL := List.mem_filter.mpr ⟨kin_t5 _ (List.mem_of_getElem? (i := 134) rfl), rfl⟩
theorem kq_5_135 : Cond.methodLink "ParserparkModel" 167 yX7_faultOf ∈ kAL := List.mem_filter.mpr ⟨kin_t5 _ (List.mem_of_getElem? (i := 135) rfl), rfl⟩
theorem kq_5_136 : Cond.privateMethod yX7_faultOf ∈ lw_tbl := kin_t5 _ (List.mem_of_getElem? (i := 136) rfl)
theorem kq_5_137 : Cond.instanceMethod yX7_faultOf ∈ kAL := List.mem_filter.mpr ⟨kin_t5 _ (List.mem_of_getElem? (i := 137) rfl), rfl⟩
theorem kq_5_138 : Cond.code yX7_faultOf prog_9_method_44_code 5 (some .char) ∈ kAL := List.mem_filter.mpr ⟨kin_t5 _ (List.mem_of_getElem? (i := 138) rfl), rfl⟩
theorem kq_5_139 : Cond.methodLink "ParserparkLaw" 185 yX7_release ∈ kAL := List.mem_filter.mpr ⟨kin_t5 _ (List.mem_of_getElem? (i := 139) rfl), rfl⟩
theorem kq_5_140 : Cond.instanceMethod yX7_release ∈ kAL := List.mem_filter.mpr ⟨kin_t5 _ (List.mem_of_getElem? (i := 140) rfl), rfl⟩
theorem kq_5_141 : Cond.selects "ParserparkModel" yX7_release yX7_release ∈ kAL := List.mem_filter.mpr ⟨kin_t5 _ (List.mem_of_getElem? (i := 141) rfl), rfl⟩
theorem kq_5_142 : Cond.code yX7_release prog_9_method_47_code 1 (some .int) ∈ kAL := List.mem_filter.mpr ⟨kin_t5 _ (List.mem_of_getElem? (i := 142) rfl), rfl⟩
theorem kq_5_143 : Cond.methodLink "ParserparkModel" 171 yX7_clean ∈ kAL := List.mem_filter.mpr ⟨kin_t5 _ (List.mem_of_getElem? (i := 143) rfl), rfl⟩
theorem kq_5_144 : Cond.privateMethod yX7_clean ∈ lw_tbl := kin_t5 _ (List.mem_of_getElem? (i := 144) rfl)
theorem kq_5_145 : Cond.instanceMethod yX7_clean ∈ kAL := List.mem_filter.mpr ⟨kin_t5 _ (List.mem_of_getElem? (i := 145) rfl), rfl⟩
theorem kq_5_146 : Cond.code yX7_clean prog_9_method_46_code 3 (some .int) ∈ kAL := List.mem_filter.mpr ⟨kin_t5 _ (List.mem_of_getElem? (i := 146) rfl), rfl⟩
theorem kq_5_147 : Cond.methodLink "ParserparkLaw" 188 yX7_ambiguous ∈ kAL := List.mem_filter.mpr ⟨kin_t5 _ (List.mem_of_getElem? (i := 147) rfl), rfl⟩
theorem kq_5_148 : Cond.instanceMethod yX7_ambiguous ∈ kAL := List.mem_filter.mpr ⟨kin_t5 _ (List.mem_of_getElem? (i := 148) rfl), rfl⟩
theorem kq_5_149 : Cond.selects "ParserparkModel" yX7_ambiguous yX7_ambiguous ∈ kAL := List.mem_filter.mpr ⟨kin_t5 _ (List.mem_of_getElem? (i := 149) rfl), rfl⟩
theorem kq_5_150 : Cond.code yX7_ambiguous prog_9_method_50_code 3 (some .int) ∈ kAL := List.mem_filter.mpr ⟨kin_t5 _ (List.mem_of_getElem? (i := 150) rfl), rfl⟩
theorem kq_5_151 : Cond.methodLink "ParserparkModel" 183 yX7_asksRow ∈ kAL := List.mem_filter.mpr ⟨kin_t5 _ (List.mem_of_getElem? (i := 151) rfl), rfl⟩
theorem kq_5_152 : Cond.privateMethod yX7_asksRow ∈ lw_tbl := kin_t5 _ (List.mem_of_getElem? (i := 152) rfl)
theorem kq_5_153 : Cond.instanceMethod yX7_asksRow ∈ kAL := List.mem_filter.mpr ⟨kin_t5 _ (List.mem_of_getElem? (i := 153) rfl), rfl⟩
theorem kq_5_154 : Cond.code yX7_asksRow prog_9_method_49_code 4 (some .boolean) ∈ kAL := List.mem_filter.mpr ⟨kin_t5 _ (List.mem_of_getElem? (i := 154) rfl), rfl⟩
theorem kq_5_155 : Cond.constantLong "ParserparkModel" 178 (4 : Int64) ∈ kAL := List.mem_filter.mpr ⟨kin_t5 _ (List.mem_of_getElem? (i := 155) rfl), rfl⟩
theorem kq_5_156 : Cond.methodLink "ParserparkModel" 180 yX7_finds ∈ kAL := List.mem_filter.mpr ⟨kin_t5 _ (List.mem_of_getElem? (i := 156) rfl), rfl⟩
theorem kq_5_157 : Cond.privateMethod yX7_finds ∈ lw_tbl := kin_t5 _ (List.mem_of_getElem? (i := 157) rfl)
theorem kq_5_158 : Cond.instanceMethod yX7_finds ∈ kAL := List.mem_filter.mpr ⟨kin_t5 _ (List.mem_of_getElem? (i := 158) rfl), rfl⟩
theorem kq_5_159 : Cond.code yX7_finds prog_9_method_48_code 7 (some .boolean) ∈ kAL := List.mem_filter.mpr ⟨kin_t5 _ (List.mem_of_getElem? (i := 159) rfl), rfl⟩
theorem kq_5_160 : Cond.methodLink "ParserparkLaw" 191 yX7_ambiguousAt ∈ kAL := List.mem_filter.mpr ⟨kin_t5 _ (List.mem_of_getElem? (i := 160) rfl), rfl⟩
theorem kq_5_161 : Cond.instanceMethod yX7_ambiguousAt ∈ kAL := List.mem_filter.mpr ⟨kin_t5 _ (List.mem_of_getElem? (i := 161) rfl), rfl⟩
theorem kq_5_162 : Cond.selects "ParserparkModel" yX7_ambiguousAt yX7_ambiguousAt ∈ kAL := List.mem_filter.mpr ⟨kin_t5 _ (List.mem_of_getElem? (i := 162) rfl), rfl⟩
theorem kq_5_163 : Cond.code yX7_ambiguousAt prog_9_method_51_code 4 (some .int) ∈ kAL := List.mem_filter.mpr ⟨kin_t5 _ (List.mem_of_getElem? (i := 163) rfl), rfl⟩
theorem kq_5_164 : Cond.methodLink "ParserparkLaw" 196 yX7_work ∈ kAL := List.mem_filter.mpr ⟨kin_t5 _ (List.mem_of_getElem? (i := 164) rfl), rfl⟩
theorem kq_5_165 : Cond.instanceMethod yX7_work ∈ kAL := List.mem_filter.mpr ⟨kin_t5 _ (List.mem_of_getElem? (i := 165) rfl), rfl⟩
theorem kq_5_166 : Cond.selects "ParserparkModel" yX7_work yX7_work ∈ kAL := List.mem_filter.mpr ⟨kin_t5 _ (List.mem_of_getElem? (i := 166) rfl), rfl⟩
theorem kq_5_167 : Cond.code yX7_work prog_9_method_52_code 1 (some .long) ∈ kAL := List.mem_filter.mpr ⟨kin_t5 _ (List.mem_of_getElem? (i := 167) rfl), rfl⟩
theorem kq_5_168 : Cond.methodLink "ParserparkLaw" 200 yX7_cleanShare ∈ kAL := List.mem_filter.mpr ⟨kin_t5 _ (List.mem_of_getElem? (i := 168) rfl), rfl⟩
theorem kq_5_169 : Cond.instanceMethod yX7_cleanShare ∈ kAL := List.mem_filter.mpr ⟨kin_t5 _ (List.mem_of_getElem? (i := 169) rfl), rfl⟩
theorem kq_5_170 : Cond.selects "ParserparkModel" yX7_cleanShare yX7_cleanShare ∈ kAL := List.mem_filter.mpr ⟨kin_t5 _ (List.mem_of_getElem? (i := 170) rfl), rfl⟩
theorem kq_5_171 : Cond.code yX7_cleanShare prog_9_method_53_code 1 (some .float) ∈ kAL := List.mem_filter.mpr ⟨kin_t5 _ (List.mem_of_getElem? (i := 171) rfl), rfl⟩
theorem kq_5_172 : Cond.methodLink "ParserparkLaw" 203 yX7_meanTrees ∈ kAL := List.mem_filter.mpr ⟨kin_t5 _ (List.mem_of_getElem? (i := 172) rfl), rfl⟩
theorem kq_5_173 : Cond.instanceMethod yX7_meanTrees ∈ kAL := List.mem_filter.mpr ⟨kin_t5 _ (List.mem_of_getElem? (i := 173) rfl), rfl⟩
theorem kq_5_174 : Cond.selects "ParserparkModel" yX7_meanTrees yX7_meanTrees ∈ kAL := List.mem_filter.mpr ⟨kin_t5 _ (List.mem_of_getElem? (i := 174) rfl), rfl⟩
theorem kq_5_175 : Cond.code yX7_meanTrees prog_9_method_54_code 3 (some .double) ∈ kAL := List.mem_filter.mpr ⟨kin_t5 _ (List.mem_of_getElem? (i := 175) rfl), rfl⟩
theorem kq_5_176 : Cond.methodLink "ParserparkLaw" 208 yX7_isSound ∈ kAL := List.mem_filter.mpr ⟨kin_t5 _ (List.mem_of_getElem? (i := 176) rfl), rfl⟩
theorem kq_5_177 : Cond.instanceMethod yX7_isSound ∈ kAL := List.mem_filter.mpr ⟨kin_t5 _ (List.mem_of_getElem? (i := 177) rfl), rfl⟩
theorem kq_5_178 : Cond.selects "ParserparkModel" yX7_isSound yX7_isSound ∈ kAL := List.mem_filter.mpr ⟨kin_t5 _ (List.mem_of_getElem? (i := 178) rfl), rfl⟩
theorem kq_5_179 : Cond.code yX7_isSound prog_9_method_55_code 1 (some .boolean) ∈ kAL := List.mem_filter.mpr ⟨kin_t5 _ (List.mem_of_getElem? (i := 179) rfl), rfl⟩
theorem kq_5_180 : Cond.arrayClass .long ∈ kAL := List.mem_filter.mpr ⟨kin_t5 _ (List.mem_of_getElem? (i := 180) rfl), rfl⟩
theorem kq_5_181 : Cond.arrayClass .double ∈ kAL := List.mem_filter.mpr ⟨kin_t5 _ (List.mem_of_getElem? (i := 181) rfl), rfl⟩
theorem kq_5_182 : Cond.sameMethod "java/lang/Throwable" "java/lang/Throwable" "fillInStackTrace" "(I)Ljava/lang/Throwable;" ∈ lw_tbl := kin_t5 _ (List.mem_of_getElem? (i := 182) rfl)
theorem kq_5_183 : Cond.castable "java/lang/ArrayIndexOutOfBoundsException" "java/lang/IndexOutOfBoundsException" ∈ kBL := List.mem_filter.mpr ⟨kin_t5 _ (List.mem_of_getElem? (i := 183) rfl), rfl⟩
theorem kq_5_184 : Cond.castable "Parserpark" "java/lang/Object" ∈ kBL := List.mem_filter.mpr ⟨kin_t5 _ (List.mem_of_getElem? (i := 184) rfl), rfl⟩
theorem kq_5_185 : Cond.castable "Parserpark$Grammar" "java/lang/Object" ∈ kBL := List.mem_filter.mpr ⟨kin_t5 _ (List.mem_of_getElem? (i := 185) rfl), rfl⟩
theorem kq_5_186 : Cond.castable "Parserpark$Spans" "java/lang/Object" ∈ kBL := List.mem_filter.mpr ⟨kin_t5 _ (List.mem_of_getElem? (i := 186) rfl), rfl⟩
theorem kq_5_187 : Cond.castable "Parserpark$Layout" "java/lang/Object" ∈ kBL := List.mem_filter.mpr ⟨kin_t5 _ (List.mem_of_getElem? (i := 187) rfl), rfl⟩
theorem kq_5_188 : Cond.castable "Parserpark$Trial" "java/lang/Object" ∈ kBL := List.mem_filter.mpr ⟨kin_t5 _ (List.mem_of_getElem? (i := 188) rfl), rfl⟩
theorem kq_5_189 : Cond.castable "ParserparkModel" "java/lang/Object" ∈ kBL := List.mem_filter.mpr ⟨kin_t5 _ (List.mem_of_getElem? (i := 189) rfl), rfl⟩
theorem kq_5_190 : Cond.castable "java/lang/IllegalArgumentException" "java/lang/Object" ∈ kBL := List.mem_filter.mpr ⟨kin_t5 _ (List.mem_of_getElem? (i := 190) rfl), rfl⟩
theorem kq_5_191 : Cond.castable "java/lang/IllegalStateException" "java/lang/Object" ∈ kBL := List.mem_filter.mpr ⟨kin_t5 _ (List.mem_of_getElem? (i := 191) rfl), rfl⟩
theorem kq_5_192 : Cond.castable "Parserpark$Rule" "java/lang/Object" ∈ kBL := List.mem_filter.mpr ⟨kin_t5 _ (List.mem_of_getElem? (i := 192) rfl), rfl⟩
theorem kq_5_193 : Cond.castable "java/util/NoSuchElementException" "java/lang/Object" ∈ kBL := List.mem_filter.mpr ⟨kin_t5 _ (List.mem_of_getElem? (i := 193) rfl), rfl⟩
theorem kq_5_194 : Cond.castable "Parserpark$Text" "java/lang/Object" ∈ kBL := List.mem_filter.mpr ⟨kin_t5 _ (List.mem_of_getElem? (i := 194) rfl), rfl⟩
theorem kq_5_195 : Cond.castable "java/lang/ArrayIndexOutOfBoundsException" "java/lang/Object" ∈ kBL := List.mem_filter.mpr ⟨kin_t5 _ (List.mem_of_getElem? (i := 195) rfl), rfl⟩
theorem kq_5_196 : Cond.castable "java/lang/IndexOutOfBoundsException" "java/lang/Object" ∈ kBL := List.mem_filter.mpr ⟨kin_t5 _ (List.mem_of_getElem? (i := 196) rfl), rfl⟩
theorem kq_5_197 : Cond.castable "java/lang/UnsupportedOperationException" "java/lang/Object" ∈ kBL := List.mem_filter.mpr ⟨kin_t5 _ (List.mem_of_getElem? (i := 197) rfl), rfl⟩
theorem kq_5_198 : Cond.castable "java/lang/ArithmeticException" "java/lang/Object" ∈ kBL := List.mem_filter.mpr ⟨kin_t5 _ (List.mem_of_getElem? (i := 198) rfl), rfl⟩
theorem kq_5_199 : Cond.castable "java/lang/Throwable" "java/lang/Object" ∈ kBL := List.mem_filter.mpr ⟨kin_t5 _ (List.mem_of_getElem? (i := 199) rfl), rfl⟩
theorem kq_5_200 : Cond.castable "java/lang/String" "java/lang/Object" ∈ kBL := List.mem_filter.mpr ⟨kin_t5 _ (List.mem_of_getElem? (i := 200) rfl), rfl⟩
theorem kq_p_0 : Cond.selects "Parserpark" yX6_isSoundText yX6_isSoundText ∈ kAL := List.mem_filter.mpr ⟨List.mem_append_left _ (List.mem_of_getElem? (i := 0) rfl), rfl⟩
theorem kq_p_1 : Cond.selects "Parserpark$Trial" yX5_tryName yX5_tryName ∈ kAL := List.mem_filter.mpr ⟨List.mem_append_left _ (List.mem_of_getElem? (i := 1) rfl), rfl⟩
theorem kq_p_2 : Cond.selects "Parserpark$Trial" yX5_tryRule yX5_tryRule ∈ kAL := List.mem_filter.mpr ⟨List.mem_append_left _ (List.mem_of_getElem? (i := 2) rfl), rfl⟩
theorem kq_p_3 : Cond.selects "Parserpark$Trial" yX5_tryPart yX5_tryPart ∈ kAL := List.mem_filter.mpr ⟨List.mem_append_left _ (List.mem_of_getElem? (i := 3) rfl), rfl⟩
theorem kq_p_4 : Cond.selects "Parserpark$Trial" yX5_tryBehindFirst yX5_tryBehindFirst ∈ kAL := List.mem_filter.mpr ⟨List.mem_append_left _ (List.mem_of_getElem? (i := 4) rfl), rfl⟩
theorem kq_p_5 : Cond.selects "Parserpark$Spans" yX3_findSpan yX3_findSpan ∈ kAL := List.mem_filter.mpr ⟨List.mem_append_left _ (List.mem_of_getElem? (i := 5) rfl), rfl⟩
theorem kq_p_6 : Cond.selects "Parserpark$Layout" yX1_clear yX1_clear ∈ kAL := List.mem_filter.mpr ⟨List.mem_append_left _ (List.mem_of_getElem? (i := 6) rfl), rfl⟩
theorem kq_p_7 : Cond.selects "Parserpark$Layout" yX1_push yX1_push ∈ kAL := List.mem_filter.mpr ⟨List.mem_append_left _ (List.mem_of_getElem? (i := 7) rfl), rfl⟩
theorem kq_p_8 : Cond.selects "Parserpark$Layout" yX1_layRule yX1_layRule ∈ kAL := List.mem_filter.mpr ⟨List.mem_append_left _ (List.mem_of_getElem? (i := 8) rfl), rfl⟩
theorem kq_p_9 : Cond.selects "Parserpark$Layout" yX1_pushParts yX1_pushParts ∈ kAL := List.mem_filter.mpr ⟨List.mem_append_left _ (List.mem_of_getElem? (i := 9) rfl), rfl⟩
theorem kq_p_10 : Cond.selects "Parserpark$Layout" yX1_setGap yX1_setGap ∈ kAL := List.mem_filter.mpr ⟨List.mem_append_left _ (List.mem_of_getElem? (i := 10) rfl), rfl⟩
theorem kq_p_12 : Cond.selects "Parserpark" yX6_findTouchedBy yX6_findTouchedBy ∈ kAL := List.mem_filter.mpr ⟨List.mem_append_left _ (List.mem_of_getElem? (i := 12) rfl), rfl⟩
theorem kq_p_13 : Cond.selects "Parserpark$Spans" yX3_hasIfLetter yX3_hasIfLetter ∈ kAL := List.mem_filter.mpr ⟨List.mem_append_left _ (List.mem_of_getElem? (i := 13) rfl), rfl⟩
theorem kq_p_14 : Cond.selects "Parserpark" yX6_existingRule yX6_existingRule ∈ kAL := List.mem_filter.mpr ⟨List.mem_append_left _ (List.mem_of_getElem? (i := 14) rfl), rfl⟩
theorem kq_p_15 : Cond.selects "Parserpark" yX6_existingText yX6_existingText ∈ kAL := List.mem_filter.mpr ⟨List.mem_append_left _ (List.mem_of_getElem? (i := 15) rfl), rfl⟩
theorem kq_p_16 : Cond.selects "Parserpark" yX6_layOut yX6_layOut ∈ kAL := List.mem_filter.mpr ⟨List.mem_append_left _ (List.mem_of_getElem? (i := 16) rfl), rfl⟩
theorem kq_p_17 : Cond.selects "Parserpark" yX6_faultOf yX6_faultOf ∈ kAL := List.mem_filter.mpr ⟨List.mem_append_left _ (List.mem_of_getElem? (i := 17) rfl), rfl⟩
theorem kq_p_18 : Cond.selects "Parserpark" yX6_countClean yX6_countClean ∈ kAL := List.mem_filter.mpr ⟨List.mem_append_left _ (List.mem_of_getElem? (i := 18) rfl), rfl⟩
theorem kq_p_19 : Cond.selects "Parserpark" yX6_lengthOfAmbiguousRow yX6_lengthOfAmbiguousRow ∈ kAL := List.mem_filter.mpr ⟨List.mem_append_left _ (List.mem_of_getElem? (i := 19) rfl), rfl⟩
theorem kq_p_20 : Cond.selects "Parserpark" yX6_findAmbiguousRow yX6_findAmbiguousRow ∈ kAL := List.mem_filter.mpr ⟨List.mem_append_left _ (List.mem_of_getElem? (i := 20) rfl), rfl⟩
theorem kq_p_21 : Cond.selects "ParserparkModel" yX7_touched yX7_touched ∈ kAL := List.mem_filter.mpr ⟨List.mem_append_left _ (List.mem_of_getElem? (i := 21) rfl), rfl⟩
theorem kq_p_22 : Cond.selects "ParserparkModel" yX7_isRule yX7_isRule ∈ kAL := List.mem_filter.mpr ⟨List.mem_append_left _ (List.mem_of_getElem? (i := 22) rfl), rfl⟩
theorem kq_p_23 : Cond.selects "ParserparkModel" yX7_isText yX7_isText ∈ kAL := List.mem_filter.mpr ⟨List.mem_append_left _ (List.mem_of_getElem? (i := 23) rfl), rfl⟩
theorem kq_p_24 : Cond.selects "ParserparkModel" yX7_laysText yX7_laysText ∈ kAL := List.mem_filter.mpr ⟨List.mem_append_left _ (List.mem_of_getElem? (i := 24) rfl), rfl⟩
theorem kq_p_25 : Cond.selects "ParserparkModel" yX7_lays yX7_lays ∈ kAL := List.mem_filter.mpr ⟨List.mem_append_left _ (List.mem_of_getElem? (i := 25) rfl), rfl⟩
theorem kq_p_26 : Cond.selects "ParserparkModel" yX7_ways yX7_ways ∈ kAL := List.mem_filter.mpr ⟨List.mem_append_left _ (List.mem_of_getElem? (i := 26) rfl), rfl⟩
theorem kq_p_27 : Cond.selects "ParserparkModel" yX7_part yX7_part ∈ kAL := List.mem_filter.mpr ⟨List.mem_append_left _ (List.mem_of_getElem? (i := 27) rfl), rfl⟩
theorem kq_p_28 : Cond.selects "ParserparkModel" yX7_twoParts yX7_twoParts ∈ kAL := List.mem_filter.mpr ⟨List.mem_append_left _ (List.mem_of_getElem? (i := 28) rfl), rfl⟩
theorem kq_p_29 : Cond.selects "ParserparkModel" yX7_isPlace yX7_isPlace ∈ kAL := List.mem_filter.mpr ⟨List.mem_append_left _ (List.mem_of_getElem? (i := 29) rfl), rfl⟩
theorem kq_p_30 : Cond.selects "ParserparkModel" yX7_asks yX7_asks ∈ kAL := List.mem_filter.mpr ⟨List.mem_append_left _ (List.mem_of_getElem? (i := 30) rfl), rfl⟩
theorem kq_p_31 : Cond.selects "ParserparkModel" yX7_walksText yX7_walksText ∈ kAL := List.mem_filter.mpr ⟨List.mem_append_left _ (List.mem_of_getElem? (i := 31) rfl), rfl⟩
theorem kq_p_32 : Cond.selects "ParserparkModel" yX7_walks yX7_walks ∈ kAL := List.mem_filter.mpr ⟨List.mem_append_left _ (List.mem_of_getElem? (i := 32) rfl), rfl⟩
theorem kq_p_33 : Cond.selects "ParserparkModel" yX7_chosen yX7_chosen ∈ kAL := List.mem_filter.mpr ⟨List.mem_append_left _ (List.mem_of_getElem? (i := 33) rfl), rfl⟩
theorem kq_p_34 : Cond.selects "ParserparkModel" yX7_sees yX7_sees ∈ kAL := List.mem_filter.mpr ⟨List.mem_append_left _ (List.mem_of_getElem? (i := 34) rfl), rfl⟩
theorem kq_p_35 : Cond.selects "ParserparkModel" yX7_cut yX7_cut ∈ kAL := List.mem_filter.mpr ⟨List.mem_append_left _ (List.mem_of_getElem? (i := 35) rfl), rfl⟩
theorem kq_p_36 : Cond.selects "ParserparkModel" yX7_blanks yX7_blanks ∈ kAL := List.mem_filter.mpr ⟨List.mem_append_left _ (List.mem_of_getElem? (i := 36) rfl), rfl⟩
theorem kq_p_37 : Cond.selects "ParserparkModel" yX7_faultOf yX7_faultOf ∈ kAL := List.mem_filter.mpr ⟨List.mem_append_left _ (List.mem_of_getElem? (i := 37) rfl), rfl⟩
theorem kq_p_38 : Cond.selects "ParserparkModel" yX7_clean yX7_clean ∈ kAL := List.mem_filter.mpr ⟨List.mem_append_left _ (List.mem_of_getElem? (i := 38) rfl), rfl⟩
theorem kq_p_39 : Cond.selects "ParserparkModel" yX7_asksRow yX7_asksRow ∈ kAL := List.mem_filter.mpr ⟨List.mem_append_left _ (List.mem_of_getElem? (i := 39) rfl), rfl⟩
theorem kq_p_40 : Cond.selects "ParserparkModel" yX7_finds yX7_finds ∈ kAL := List.mem_filter.mpr ⟨List.mem_append_left _ (List.mem_of_getElem? (i := 40) rfl), rfl⟩
theorem kwl_X0 : ∀ w ∈ u_ws RX0 TX0 2, w ∈ kAL := by
  intro w h
  obtain ⟨k, hk, rfl⟩ := List.mem_map.mp h
  have hk := List.mem_range.mp hk
  match k, hk with
  | 0, _ => exact kq_1_43
  | 1, _ => exact kq_1_45
  | k + 2, hk => exact absurd hk (by omega)
theorem kwl_X1 : ∀ w ∈ u_ws RX1 TX1 11, w ∈ kAL := by
  intro w h
  obtain ⟨k, hk, rfl⟩ := List.mem_map.mp h
  have hk := List.mem_range.mp hk
  match k, hk with
  | 0, _ => exact kq_1_91
  | 1, _ => exact kq_1_93
  | 2, _ => exact kq_1_95
  | 3, _ => exact kq_1_97
  | 4, _ => exact kq_1_99
  | 5, _ => exact kq_1_101
  | 6, _ => exact kq_1_103
  | 7, _ => exact kq_1_105
  | 8, _ => exact kq_1_107
  | 9, _ => exact kq_1_109
  | 10, _ => exact kq_1_111
  | k + 11, hk => exact absurd hk (by omega)
theorem kwl_X2 : ∀ w ∈ u_ws RX2 TX2 9, w ∈ kAL := by
  intro w h
  obtain ⟨k, hk, rfl⟩ := List.mem_map.mp h
  have hk := List.mem_range.mp hk
  match k, hk with
  | 0, _ => exact kq_2_188
  | 1, _ => exact kq_2_190
  | 2, _ => exact kq_2_192
  | 3, _ => exact kq_2_194
  | 4, _ => exact kq_2_196
  | 5, _ => exact kq_2_198
  | 6, _ => exact kq_2_200
  | 7, _ => exact kq_2_202
  | 8, _ => exact kq_2_204
  | k + 9, hk => exact absurd hk (by omega)
theorem kwl_X3 : ∀ w ∈ u_ws RX3 TX3 3, w ∈ kAL := by
  intro w h
  obtain ⟨k, hk, rfl⟩ := List.mem_map.mp h
  have hk := List.mem_range.mp hk
  match k, hk with
  | 0, _ => exact kq_1_62
  | 1, _ => exact kq_1_64
  | 2, _ => exact kq_1_66
  | k + 3, hk => exact absurd hk (by omega)
theorem kwl_X4 : ∀ w ∈ u_ws RX4 TX4 3, w ∈ kAL := by
  intro w h
  obtain ⟨k, hk, rfl⟩ := List.mem_map.mp h
  have hk := List.mem_range.mp hk
  match k, hk with
  | 0, _ => exact kq_3_51
  | 1, _ => exact kq_3_53
  | 2, _ => exact kq_3_55
  | k + 3, hk => exact absurd hk (by omega)
theorem kwl_X5 : ∀ w ∈ u_ws RX5 TX5 1, w ∈ kAL := by
  intro w h
  obtain ⟨k, hk, rfl⟩ := List.mem_map.mp h
  have hk := List.mem_range.mp hk
  match k, hk with
  | 0, _ => exact kq_1_121
  | k + 1, hk => exact absurd hk (by omega)
theorem kwl_X6 : ∀ w ∈ u_ws RX6 TX6 8, w ∈ kAL := by
  intro w h
  obtain ⟨k, hk, rfl⟩ := List.mem_map.mp h
  have hk := List.mem_range.mp hk
  match k, hk with
  | 0, _ => exact kq_1_132
  | 1, _ => exact kq_1_134
  | 2, _ => exact kq_1_136
  | 3, _ => exact kq_1_138
  | 4, _ => exact kq_1_140
  | 5, _ => exact kq_1_142
  | 6, _ => exact kq_1_144
  | 7, _ => exact kq_1_146
  | k + 8, hk => exact absurd hk (by omega)
theorem kwl_X7 : ∀ w ∈ u_ws RX7 TX7 25, w ∈ kAL := by
  intro w h
  obtain ⟨k, hk, rfl⟩ := List.mem_map.mp h
  have hk := List.mem_range.mp hk
  match k, hk with
  | 0, _ => exact kq_4_150
  | 1, _ => exact kq_4_152
  | 2, _ => exact kq_4_154
  | 3, _ => exact kq_4_156
  | 4, _ => exact kq_4_158
  | 5, _ => exact kq_4_160
  | 6, _ => exact kq_4_162
  | 7, _ => exact kq_4_164
  | 8, _ => exact kq_4_166
  | 9, _ => exact kq_4_168
  | 10, _ => exact kq_4_170
  | 11, _ => exact kq_4_172
  | 12, _ => exact kq_4_174
  | 13, _ => exact kq_4_176
  | 14, _ => exact kq_4_178
  | 15, _ => exact kq_4_180
  | 16, _ => exact kq_4_182
  | 17, _ => exact kq_4_184
  | 18, _ => exact kq_4_186
  | 19, _ => exact kq_4_188
  | 20, _ => exact kq_4_190
  | 21, _ => exact kq_4_192
  | 22, _ => exact kq_4_194
  | 23, _ => exact kq_4_196
  | 24, _ => exact kq_4_198
  | k + 25, hk => exact absurd hk (by omega)
/-- a field link of class own at index: of class ci, field j -/
def kFd (own : String) (index ci j : Nat) : Prop := ∃ (C : String) (T : u_T) (N : Nat) (ty : Nat → FieldType), vwCl[ci]? = some (C, T, N) ∧ (∀ w ∈ u_ws C T N, w ∈ kAL) ∧ j < N ∧ Cond.fieldLink own index (T j).1 (T j).2.1 (T j).2.2.1 ∈ kAL ∧ (∀ k, k < N → parseFieldDescriptor (T k).2.2.1 = some (ty k)) ∧ (∀ a, a < N → ∀ b, b < N → a ≠ b → (T a).2.1 ≠ (T b).2.1)
/-- .. its type, and whether it is final -/
def kFt (own : String) (ci j : Nat) (f : FieldType) (fin : Bool) : Prop := ∀ (C : String) (T : u_T) (N : Nat), vwCl[ci]? = some (C, T, N) → parseFieldDescriptor (T j).2.2.1 = some f ∧ (T j).2.2.2 = fin ∧ (T j).1 = own
theorem kf_X0_11 : kFd RX0 11 2 0 := ⟨RX0, TX0, 2, tyX0, rfl, kwl_X0, by decide, kq_1_38, tyX0_ok, nmX0⟩
theorem kf_X0_17 : kFd RX0 17 2 1 := ⟨RX0, TX0, 2, tyX0, rfl, kwl_X0, by decide, kq_1_39, tyX0_ok, nmX0⟩
theorem kf_X6_70 : kFd RX6 70 2 1 := ⟨RX0, TX0, 2, tyX0, rfl, kwl_X0, by decide, kq_1_40, tyX0_ok, nmX0⟩
theorem kf_X5_35 : kFd RX5 35 2 1 := ⟨RX0, TX0, 2, tyX0, rfl, kwl_X0, by decide, kq_1_41, tyX0_ok, nmX0⟩
theorem kf_X3_67 : kFd RX3 67 2 1 := ⟨RX0, TX0, 2, tyX0, rfl, kwl_X0, by decide, kq_1_42, tyX0_ok, nmX0⟩
theorem kf_X3_9 : kFd RX3 9 5 0 := ⟨RX3, TX3, 3, tyX3, rfl, kwl_X3, by decide, kq_1_56, tyX3_ok, nmX3⟩
theorem kf_X3_15 : kFd RX3 15 5 1 := ⟨RX3, TX3, 3, tyX3, rfl, kwl_X3, by decide, kq_1_57, tyX3_ok, nmX3⟩
theorem kf_X3_18 : kFd RX3 18 5 2 := ⟨RX3, TX3, 3, tyX3, rfl, kwl_X3, by decide, kq_1_58, tyX3_ok, nmX3⟩
theorem kf_X5_21 : kFd RX5 21 5 2 := ⟨RX3, TX3, 3, tyX3, rfl, kwl_X3, by decide, kq_1_59, tyX3_ok, nmX3⟩
theorem kf_X1_55 : kFd RX1 55 5 2 := ⟨RX3, TX3, 3, tyX3, rfl, kwl_X3, by decide, kq_1_60, tyX3_ok, nmX3⟩
theorem kf_X6_131 : kFd RX6 131 5 2 := ⟨RX3, TX3, 3, tyX3, rfl, kwl_X3, by decide, kq_1_61, tyX3_ok, nmX3⟩
theorem kf_X1_9 : kFd RX1 9 3 0 := ⟨RX1, TX1, 11, tyX1, rfl, kwl_X1, by decide, kq_1_76, tyX1_ok, nmX1⟩
theorem kf_X1_15 : kFd RX1 15 3 1 := ⟨RX1, TX1, 11, tyX1, rfl, kwl_X1, by decide, kq_1_77, tyX1_ok, nmX1⟩
theorem kf_X1_18 : kFd RX1 18 3 2 := ⟨RX1, TX1, 11, tyX1, rfl, kwl_X1, by decide, kq_1_78, tyX1_ok, nmX1⟩
theorem kf_X1_21 : kFd RX1 21 3 3 := ⟨RX1, TX1, 11, tyX1, rfl, kwl_X1, by decide, kq_1_79, tyX1_ok, nmX1⟩
theorem kf_X1_24 : kFd RX1 24 3 4 := ⟨RX1, TX1, 11, tyX1, rfl, kwl_X1, by decide, kq_1_80, tyX1_ok, nmX1⟩
theorem kf_X1_27 : kFd RX1 27 3 5 := ⟨RX1, TX1, 11, tyX1, rfl, kwl_X1, by decide, kq_1_81, tyX1_ok, nmX1⟩
theorem kf_X1_30 : kFd RX1 30 3 6 := ⟨RX1, TX1, 11, tyX1, rfl, kwl_X1, by decide, kq_1_82, tyX1_ok, nmX1⟩
theorem kf_X1_33 : kFd RX1 33 3 7 := ⟨RX1, TX1, 11, tyX1, rfl, kwl_X1, by decide, kq_1_83, tyX1_ok, nmX1⟩
theorem kf_X1_37 : kFd RX1 37 3 8 := ⟨RX1, TX1, 11, tyX1, rfl, kwl_X1, by decide, kq_1_84, tyX1_ok, nmX1⟩
theorem kf_X4_26 : kFd RX4 26 3 8 := ⟨RX1, TX1, 11, tyX1, rfl, kwl_X1, by decide, kq_1_85, tyX1_ok, nmX1⟩
theorem kf_X6_165 : kFd RX6 165 3 8 := ⟨RX1, TX1, 11, tyX1, rfl, kwl_X1, by decide, kq_1_86, tyX1_ok, nmX1⟩
theorem kf_X1_40 : kFd RX1 40 3 9 := ⟨RX1, TX1, 11, tyX1, rfl, kwl_X1, by decide, kq_1_87, tyX1_ok, nmX1⟩
theorem kf_X6_174 : kFd RX6 174 3 9 := ⟨RX1, TX1, 11, tyX1, rfl, kwl_X1, by decide, kq_1_88, tyX1_ok, nmX1⟩
theorem kf_X1_43 : kFd RX1 43 3 10 := ⟨RX1, TX1, 11, tyX1, rfl, kwl_X1, by decide, kq_1_89, tyX1_ok, nmX1⟩
theorem kf_X6_257 : kFd RX6 257 3 10 := ⟨RX1, TX1, 11, tyX1, rfl, kwl_X1, by decide, kq_1_90, tyX1_ok, nmX1⟩
theorem kf_X5_9 : kFd RX5 9 7 0 := ⟨RX5, TX5, 1, tyX5, rfl, kwl_X5, by decide, kq_1_120, tyX5_ok, nmX5⟩
theorem kf_X6_12 : kFd RX6 12 8 0 := ⟨RX6, TX6, 8, tyX6, rfl, kwl_X6, by decide, kq_1_124, tyX6_ok, nmX6⟩
theorem kf_X6_18 : kFd RX6 18 8 1 := ⟨RX6, TX6, 8, tyX6, rfl, kwl_X6, by decide, kq_1_125, tyX6_ok, nmX6⟩
theorem kf_X6_25 : kFd RX6 25 8 2 := ⟨RX6, TX6, 8, tyX6, rfl, kwl_X6, by decide, kq_1_126, tyX6_ok, nmX6⟩
theorem kf_X6_32 : kFd RX6 32 8 3 := ⟨RX6, TX6, 8, tyX6, rfl, kwl_X6, by decide, kq_1_127, tyX6_ok, nmX6⟩
theorem kf_X6_39 : kFd RX6 39 8 4 := ⟨RX6, TX6, 8, tyX6, rfl, kwl_X6, by decide, kq_1_128, tyX6_ok, nmX6⟩
theorem kf_X6_43 : kFd RX6 43 8 5 := ⟨RX6, TX6, 8, tyX6, rfl, kwl_X6, by decide, kq_1_129, tyX6_ok, nmX6⟩
theorem kf_X6_47 : kFd RX6 47 8 6 := ⟨RX6, TX6, 8, tyX6, rfl, kwl_X6, by decide, kq_1_130, tyX6_ok, nmX6⟩
theorem kf_X6_50 : kFd RX6 50 8 7 := ⟨RX6, TX6, 8, tyX6, rfl, kwl_X6, by decide, kq_1_131, tyX6_ok, nmX6⟩
theorem kf_X2_23 : kFd RX2 23 4 0 := ⟨RX2, TX2, 9, tyX2, rfl, kwl_X2, by decide, kq_2_157, tyX2_ok, nmX2⟩
theorem kf_X6_84 : kFd RX6 84 4 0 := ⟨RX2, TX2, 9, tyX2, rfl, kwl_X2, by decide, kq_2_158, tyX2_ok, nmX2⟩
theorem kf_X1_92 : kFd RX1 92 4 0 := ⟨RX2, TX2, 9, tyX2, rfl, kwl_X2, by decide, kq_2_159, tyX2_ok, nmX2⟩
theorem kf_X2_26 : kFd RX2 26 4 1 := ⟨RX2, TX2, 9, tyX2, rfl, kwl_X2, by decide, kq_2_160, tyX2_ok, nmX2⟩
theorem kf_X5_44 : kFd RX5 44 4 1 := ⟨RX2, TX2, 9, tyX2, rfl, kwl_X2, by decide, kq_2_161, tyX2_ok, nmX2⟩
theorem kf_X0_29 : kFd RX0 29 4 1 := ⟨RX2, TX2, 9, tyX2, rfl, kwl_X2, by decide, kq_2_162, tyX2_ok, nmX2⟩
theorem kf_X3_76 : kFd RX3 76 4 1 := ⟨RX2, TX2, 9, tyX2, rfl, kwl_X2, by decide, kq_2_163, tyX2_ok, nmX2⟩
theorem kf_X2_29 : kFd RX2 29 4 2 := ⟨RX2, TX2, 9, tyX2, rfl, kwl_X2, by decide, kq_2_164, tyX2_ok, nmX2⟩
theorem kf_X5_60 : kFd RX5 60 4 2 := ⟨RX2, TX2, 9, tyX2, rfl, kwl_X2, by decide, kq_2_165, tyX2_ok, nmX2⟩
theorem kf_X1_117 : kFd RX1 117 4 2 := ⟨RX2, TX2, 9, tyX2, rfl, kwl_X2, by decide, kq_2_166, tyX2_ok, nmX2⟩
theorem kf_X3_42 : kFd RX3 42 4 2 := ⟨RX2, TX2, 9, tyX2, rfl, kwl_X2, by decide, kq_2_167, tyX2_ok, nmX2⟩
theorem kf_X2_32 : kFd RX2 32 4 3 := ⟨RX2, TX2, 9, tyX2, rfl, kwl_X2, by decide, kq_2_168, tyX2_ok, nmX2⟩
theorem kf_X5_57 : kFd RX5 57 4 3 := ⟨RX2, TX2, 9, tyX2, rfl, kwl_X2, by decide, kq_2_169, tyX2_ok, nmX2⟩
theorem kf_X1_114 : kFd RX1 114 4 3 := ⟨RX2, TX2, 9, tyX2, rfl, kwl_X2, by decide, kq_2_170, tyX2_ok, nmX2⟩
theorem kf_X3_51 : kFd RX3 51 4 3 := ⟨RX2, TX2, 9, tyX2, rfl, kwl_X2, by decide, kq_2_171, tyX2_ok, nmX2⟩
theorem kf_X2_35 : kFd RX2 35 4 4 := ⟨RX2, TX2, 9, tyX2, rfl, kwl_X2, by decide, kq_2_172, tyX2_ok, nmX2⟩
theorem kf_X5_69 : kFd RX5 69 4 4 := ⟨RX2, TX2, 9, tyX2, rfl, kwl_X2, by decide, kq_2_173, tyX2_ok, nmX2⟩
theorem kf_X1_104 : kFd RX1 104 4 4 := ⟨RX2, TX2, 9, tyX2, rfl, kwl_X2, by decide, kq_2_174, tyX2_ok, nmX2⟩
theorem kf_X3_54 : kFd RX3 54 4 4 := ⟨RX2, TX2, 9, tyX2, rfl, kwl_X2, by decide, kq_2_175, tyX2_ok, nmX2⟩
theorem kf_X2_7 : kFd RX2 7 4 5 := ⟨RX2, TX2, 9, tyX2, rfl, kwl_X2, by decide, kq_2_176, tyX2_ok, nmX2⟩
theorem kf_X6_99 : kFd RX6 99 4 5 := ⟨RX2, TX2, 9, tyX2, rfl, kwl_X2, by decide, kq_2_177, tyX2_ok, nmX2⟩
theorem kf_X0_32 : kFd RX0 32 4 5 := ⟨RX2, TX2, 9, tyX2, rfl, kwl_X2, by decide, kq_2_178, tyX2_ok, nmX2⟩
theorem kf_X2_13 : kFd RX2 13 4 6 := ⟨RX2, TX2, 9, tyX2, rfl, kwl_X2, by decide, kq_2_179, tyX2_ok, nmX2⟩
theorem kf_X6_102 : kFd RX6 102 4 6 := ⟨RX2, TX2, 9, tyX2, rfl, kwl_X2, by decide, kq_2_180, tyX2_ok, nmX2⟩
theorem kf_X1_97 : kFd RX1 97 4 6 := ⟨RX2, TX2, 9, tyX2, rfl, kwl_X2, by decide, kq_2_181, tyX2_ok, nmX2⟩
theorem kf_X2_16 : kFd RX2 16 4 7 := ⟨RX2, TX2, 9, tyX2, rfl, kwl_X2, by decide, kq_2_182, tyX2_ok, nmX2⟩
theorem kf_X6_105 : kFd RX6 105 4 7 := ⟨RX2, TX2, 9, tyX2, rfl, kwl_X2, by decide, kq_2_183, tyX2_ok, nmX2⟩
theorem kf_X1_107 : kFd RX1 107 4 7 := ⟨RX2, TX2, 9, tyX2, rfl, kwl_X2, by decide, kq_2_184, tyX2_ok, nmX2⟩
theorem kf_X2_19 : kFd RX2 19 4 8 := ⟨RX2, TX2, 9, tyX2, rfl, kwl_X2, by decide, kq_2_185, tyX2_ok, nmX2⟩
theorem kf_X6_91 : kFd RX6 91 4 8 := ⟨RX2, TX2, 9, tyX2, rfl, kwl_X2, by decide, kq_2_186, tyX2_ok, nmX2⟩
theorem kf_X0_21 : kFd RX0 21 4 8 := ⟨RX2, TX2, 9, tyX2, rfl, kwl_X2, by decide, kq_2_187, tyX2_ok, nmX2⟩
theorem kf_X4_12 : kFd RX4 12 6 0 := ⟨RX4, TX4, 3, tyX4, rfl, kwl_X4, by decide, kq_3_46, tyX4_ok, nmX4⟩
theorem kf_X6_117 : kFd RX6 117 6 0 := ⟨RX4, TX4, 3, tyX4, rfl, kwl_X4, by decide, kq_3_47, tyX4_ok, nmX4⟩
theorem kf_X4_18 : kFd RX4 18 6 1 := ⟨RX4, TX4, 3, tyX4, rfl, kwl_X4, by decide, kq_3_48, tyX4_ok, nmX4⟩
theorem kf_X4_22 : kFd RX4 22 6 2 := ⟨RX4, TX4, 3, tyX4, rfl, kwl_X4, by decide, kq_3_49, tyX4_ok, nmX4⟩
theorem kf_X6_233 : kFd RX6 233 6 2 := ⟨RX4, TX4, 3, tyX4, rfl, kwl_X4, by decide, kq_3_50, tyX4_ok, nmX4⟩
theorem kf_X7_7 : kFd RX7 7 9 0 := ⟨RX7, TX7, 25, tyX7, rfl, kwl_X7, by decide, kq_4_125, tyX7_ok, nmX7⟩
theorem kf_X7_13 : kFd RX7 13 9 1 := ⟨RX7, TX7, 25, tyX7, rfl, kwl_X7, by decide, kq_4_126, tyX7_ok, nmX7⟩
theorem kf_X7_16 : kFd RX7 16 9 2 := ⟨RX7, TX7, 25, tyX7, rfl, kwl_X7, by decide, kq_4_127, tyX7_ok, nmX7⟩
theorem kf_X7_19 : kFd RX7 19 9 3 := ⟨RX7, TX7, 25, tyX7, rfl, kwl_X7, by decide, kq_4_128, tyX7_ok, nmX7⟩
theorem kf_X7_22 : kFd RX7 22 9 4 := ⟨RX7, TX7, 25, tyX7, rfl, kwl_X7, by decide, kq_4_129, tyX7_ok, nmX7⟩
theorem kf_X7_25 : kFd RX7 25 9 5 := ⟨RX7, TX7, 25, tyX7, rfl, kwl_X7, by decide, kq_4_130, tyX7_ok, nmX7⟩
theorem kf_X7_28 : kFd RX7 28 9 6 := ⟨RX7, TX7, 25, tyX7, rfl, kwl_X7, by decide, kq_4_131, tyX7_ok, nmX7⟩
theorem kf_X7_96 : kFd RX7 96 9 7 := ⟨RX7, TX7, 25, tyX7, rfl, kwl_X7, by decide, kq_4_132, tyX7_ok, nmX7⟩
theorem kf_X7_32 : kFd RX7 32 9 8 := ⟨RX7, TX7, 25, tyX7, rfl, kwl_X7, by decide, kq_4_133, tyX7_ok, nmX7⟩
theorem kf_X7_35 : kFd RX7 35 9 9 := ⟨RX7, TX7, 25, tyX7, rfl, kwl_X7, by decide, kq_4_134, tyX7_ok, nmX7⟩
theorem kf_X7_38 : kFd RX7 38 9 10 := ⟨RX7, TX7, 25, tyX7, rfl, kwl_X7, by decide, kq_4_135, tyX7_ok, nmX7⟩
theorem kf_X7_41 : kFd RX7 41 9 11 := ⟨RX7, TX7, 25, tyX7, rfl, kwl_X7, by decide, kq_4_136, tyX7_ok, nmX7⟩
theorem kf_X7_134 : kFd RX7 134 9 12 := ⟨RX7, TX7, 25, tyX7, rfl, kwl_X7, by decide, kq_4_137, tyX7_ok, nmX7⟩
theorem kf_X7_137 : kFd RX7 137 9 13 := ⟨RX7, TX7, 25, tyX7, rfl, kwl_X7, by decide, kq_4_138, tyX7_ok, nmX7⟩
theorem kf_X7_175 : kFd RX7 175 9 14 := ⟨RX7, TX7, 25, tyX7, rfl, kwl_X7, by decide, kq_4_139, tyX7_ok, nmX7⟩
theorem kf_X7_44 : kFd RX7 44 9 15 := ⟨RX7, TX7, 25, tyX7, rfl, kwl_X7, by decide, kq_4_140, tyX7_ok, nmX7⟩
theorem kf_X7_93 : kFd RX7 93 9 16 := ⟨RX7, TX7, 25, tyX7, rfl, kwl_X7, by decide, kq_4_141, tyX7_ok, nmX7⟩
theorem kf_X7_47 : kFd RX7 47 9 17 := ⟨RX7, TX7, 25, tyX7, rfl, kwl_X7, by decide, kq_4_142, tyX7_ok, nmX7⟩
theorem kf_X7_50 : kFd RX7 50 9 18 := ⟨RX7, TX7, 25, tyX7, rfl, kwl_X7, by decide, kq_4_143, tyX7_ok, nmX7⟩
theorem kf_X7_115 : kFd RX7 115 9 19 := ⟨RX7, TX7, 25, tyX7, rfl, kwl_X7, by decide, kq_4_144, tyX7_ok, nmX7⟩
theorem kf_X7_53 : kFd RX7 53 9 20 := ⟨RX7, TX7, 25, tyX7, rfl, kwl_X7, by decide, kq_4_145, tyX7_ok, nmX7⟩
theorem kf_X7_56 : kFd RX7 56 9 21 := ⟨RX7, TX7, 25, tyX7, rfl, kwl_X7, by decide, kq_4_146, tyX7_ok, nmX7⟩
theorem kf_X7_109 : kFd RX7 109 9 22 := ⟨RX7, TX7, 25, tyX7, rfl, kwl_X7, by decide, kq_4_147, tyX7_ok, nmX7⟩
theorem kf_X7_118 : kFd RX7 118 9 23 := ⟨RX7, TX7, 25, tyX7, rfl, kwl_X7, by decide, kq_4_148, tyX7_ok, nmX7⟩
theorem kf_X7_60 : kFd RX7 60 9 24 := ⟨RX7, TX7, 25, tyX7, rfl, kwl_X7, by decide, kq_4_149, tyX7_ok, nmX7⟩
theorem kt_X0_0 : kFt RX0 2 0 (.array (.object "Parserpark$Rule")) true := fun C T N h => by cases h; exact ⟨by decide +kernel, rfl, rfl⟩
theorem kt_X0_1 : kFt RX0 2 1 .int false := fun C T N h => by cases h; exact ⟨by decide +kernel, rfl, rfl⟩
theorem kt_X1_0 : kFt RX1 3 0 (.array .int) true := fun C T N h => by cases h; exact ⟨by decide +kernel, rfl, rfl⟩
theorem kt_X1_1 : kFt RX1 3 1 (.array .int) true := fun C T N h => by cases h; exact ⟨by decide +kernel, rfl, rfl⟩
theorem kt_X1_2 : kFt RX1 3 2 (.array .int) true := fun C T N h => by cases h; exact ⟨by decide +kernel, rfl, rfl⟩
theorem kt_X1_3 : kFt RX1 3 3 (.array .int) true := fun C T N h => by cases h; exact ⟨by decide +kernel, rfl, rfl⟩
theorem kt_X1_4 : kFt RX1 3 4 (.array .int) true := fun C T N h => by cases h; exact ⟨by decide +kernel, rfl, rfl⟩
theorem kt_X1_5 : kFt RX1 3 5 (.array .int) true := fun C T N h => by cases h; exact ⟨by decide +kernel, rfl, rfl⟩
theorem kt_X1_6 : kFt RX1 3 6 (.array .int) true := fun C T N h => by cases h; exact ⟨by decide +kernel, rfl, rfl⟩
theorem kt_X1_7 : kFt RX1 3 7 .int false := fun C T N h => by cases h; exact ⟨by decide +kernel, rfl, rfl⟩
theorem kt_X1_8 : kFt RX1 3 8 .int false := fun C T N h => by cases h; exact ⟨by decide +kernel, rfl, rfl⟩
theorem kt_X1_9 : kFt RX1 3 9 .int false := fun C T N h => by cases h; exact ⟨by decide +kernel, rfl, rfl⟩
theorem kt_X1_10 : kFt RX1 3 10 .int false := fun C T N h => by cases h; exact ⟨by decide +kernel, rfl, rfl⟩
theorem kt_X2_0 : kFt RX2 4 0 .int true := fun C T N h => by cases h; exact ⟨by decide +kernel, rfl, rfl⟩
theorem kt_X2_1 : kFt RX2 4 1 .int true := fun C T N h => by cases h; exact ⟨by decide +kernel, rfl, rfl⟩
theorem kt_X2_2 : kFt RX2 4 2 .int true := fun C T N h => by cases h; exact ⟨by decide +kernel, rfl, rfl⟩
theorem kt_X2_3 : kFt RX2 4 3 .int true := fun C T N h => by cases h; exact ⟨by decide +kernel, rfl, rfl⟩
theorem kt_X2_4 : kFt RX2 4 4 .int true := fun C T N h => by cases h; exact ⟨by decide +kernel, rfl, rfl⟩
theorem kt_X2_5 : kFt RX2 4 5 .int false := fun C T N h => by cases h; exact ⟨by decide +kernel, rfl, rfl⟩
theorem kt_X2_6 : kFt RX2 4 6 .int false := fun C T N h => by cases h; exact ⟨by decide +kernel, rfl, rfl⟩
theorem kt_X2_7 : kFt RX2 4 7 .int false := fun C T N h => by cases h; exact ⟨by decide +kernel, rfl, rfl⟩
theorem kt_X2_8 : kFt RX2 4 8 .boolean false := fun C T N h => by cases h; exact ⟨by decide +kernel, rfl, rfl⟩
theorem kt_X3_0 : kFt RX3 5 0 (.array .int) true := fun C T N h => by cases h; exact ⟨by decide +kernel, rfl, rfl⟩
theorem kt_X3_1 : kFt RX3 5 1 (.array .int) true := fun C T N h => by cases h; exact ⟨by decide +kernel, rfl, rfl⟩
theorem kt_X3_2 : kFt RX3 5 2 .int false := fun C T N h => by cases h; exact ⟨by decide +kernel, rfl, rfl⟩
theorem kt_X4_0 : kFt RX4 6 0 (.object "Parserpark$Spans") true := fun C T N h => by cases h; exact ⟨by decide +kernel, rfl, rfl⟩
theorem kt_X4_1 : kFt RX4 6 1 (.array .int) true := fun C T N h => by cases h; exact ⟨by decide +kernel, rfl, rfl⟩
theorem kt_X4_2 : kFt RX4 6 2 .int false := fun C T N h => by cases h; exact ⟨by decide +kernel, rfl, rfl⟩
theorem kt_X5_0 : kFt RX5 7 0 (.array .int) true := fun C T N h => by cases h; exact ⟨by decide +kernel, rfl, rfl⟩
theorem kt_X6_0 : kFt RX6 8 0 (.object "Parserpark$Grammar") true := fun C T N h => by cases h; exact ⟨by decide +kernel, rfl, rfl⟩
theorem kt_X6_1 : kFt RX6 8 1 (.array (.object "Parserpark$Text")) true := fun C T N h => by cases h; exact ⟨by decide +kernel, rfl, rfl⟩
theorem kt_X6_2 : kFt RX6 8 2 (.object "Parserpark$Spans") true := fun C T N h => by cases h; exact ⟨by decide +kernel, rfl, rfl⟩
theorem kt_X6_3 : kFt RX6 8 3 (.object "Parserpark$Layout") true := fun C T N h => by cases h; exact ⟨by decide +kernel, rfl, rfl⟩
theorem kt_X6_4 : kFt RX6 8 4 (.object "Parserpark$Trial") true := fun C T N h => by cases h; exact ⟨by decide +kernel, rfl, rfl⟩
theorem kt_X6_5 : kFt RX6 8 5 .int false := fun C T N h => by cases h; exact ⟨by decide +kernel, rfl, rfl⟩
theorem kt_X6_6 : kFt RX6 8 6 .int false := fun C T N h => by cases h; exact ⟨by decide +kernel, rfl, rfl⟩
theorem kt_X6_7 : kFt RX6 8 7 .long false := fun C T N h => by cases h; exact ⟨by decide +kernel, rfl, rfl⟩
theorem kt_X7_0 : kFt RX7 9 0 (.array .int) true := fun C T N h => by cases h; exact ⟨by decide +kernel, rfl, rfl⟩
theorem kt_X7_1 : kFt RX7 9 1 (.array .int) true := fun C T N h => by cases h; exact ⟨by decide +kernel, rfl, rfl⟩
theorem kt_X7_2 : kFt RX7 9 2 (.array .int) true := fun C T N h => by cases h; exact ⟨by decide +kernel, rfl, rfl⟩
theorem kt_X7_3 : kFt RX7 9 3 (.array .int) true := fun C T N h => by cases h; exact ⟨by decide +kernel, rfl, rfl⟩
theorem kt_X7_4 : kFt RX7 9 4 (.array .int) true := fun C T N h => by cases h; exact ⟨by decide +kernel, rfl, rfl⟩
theorem kt_X7_5 : kFt RX7 9 5 (.array .int) true := fun C T N h => by cases h; exact ⟨by decide +kernel, rfl, rfl⟩
theorem kt_X7_6 : kFt RX7 9 6 (.array .boolean) true := fun C T N h => by cases h; exact ⟨by decide +kernel, rfl, rfl⟩
theorem kt_X7_7 : kFt RX7 9 7 .int false := fun C T N h => by cases h; exact ⟨by decide +kernel, rfl, rfl⟩
theorem kt_X7_8 : kFt RX7 9 8 (.array .int) true := fun C T N h => by cases h; exact ⟨by decide +kernel, rfl, rfl⟩
theorem kt_X7_9 : kFt RX7 9 9 (.array .int) true := fun C T N h => by cases h; exact ⟨by decide +kernel, rfl, rfl⟩
theorem kt_X7_10 : kFt RX7 9 10 (.array .int) true := fun C T N h => by cases h; exact ⟨by decide +kernel, rfl, rfl⟩
theorem kt_X7_11 : kFt RX7 9 11 (.array .int) true := fun C T N h => by cases h; exact ⟨by decide +kernel, rfl, rfl⟩
theorem kt_X7_12 : kFt RX7 9 12 .int false := fun C T N h => by cases h; exact ⟨by decide +kernel, rfl, rfl⟩
theorem kt_X7_13 : kFt RX7 9 13 .long false := fun C T N h => by cases h; exact ⟨by decide +kernel, rfl, rfl⟩
theorem kt_X7_14 : kFt RX7 9 14 .int false := fun C T N h => by cases h; exact ⟨by decide +kernel, rfl, rfl⟩
theorem kt_X7_15 : kFt RX7 9 15 (.array .int) true := fun C T N h => by cases h; exact ⟨by decide +kernel, rfl, rfl⟩
theorem kt_X7_16 : kFt RX7 9 16 .int false := fun C T N h => by cases h; exact ⟨by decide +kernel, rfl, rfl⟩
theorem kt_X7_17 : kFt RX7 9 17 (.array .int) true := fun C T N h => by cases h; exact ⟨by decide +kernel, rfl, rfl⟩
theorem kt_X7_18 : kFt RX7 9 18 (.array .int) true := fun C T N h => by cases h; exact ⟨by decide +kernel, rfl, rfl⟩
theorem kt_X7_19 : kFt RX7 9 19 .int false := fun C T N h => by cases h; exact ⟨by decide +kernel, rfl, rfl⟩
theorem kt_X7_20 : kFt RX7 9 20 (.array .int) true := fun C T N h => by cases h; exact ⟨by decide +kernel, rfl, rfl⟩
theorem kt_X7_21 : kFt RX7 9 21 (.array .char) true := fun C T N h => by cases h; exact ⟨by decide +kernel, rfl, rfl⟩
theorem kt_X7_22 : kFt RX7 9 22 .int false := fun C T N h => by cases h; exact ⟨by decide +kernel, rfl, rfl⟩
theorem kt_X7_23 : kFt RX7 9 23 .int false := fun C T N h => by cases h; exact ⟨by decide +kernel, rfl, rfl⟩
theorem kt_X7_24 : kFt RX7 9 24 .int false := fun C T N h => by cases h; exact ⟨by decide +kernel, rfl, rfl⟩
def kYd (y : MethodName) (n : Nat) : Prop := y.cls ≠ "java/lang/invoke/MethodHandle" ∧ y.cls ≠ "java/lang/invoke/VarHandle" ∧ (parseMethodDescriptor y.desc).map (fun d => d.parameters.length) = some n
def kYV (y : MethodName) (b : ByteArray) (mL : Nat) (ret : Option FieldType) (n : Nat) : Prop := Cond.code y b mL ret ∈ kAL ∧ Cond.instanceMethod y ∈ kAL ∧ Cond.selects y.cls y y ∈ kAL ∧ Cond.initialized y.cls ∈ kAL ∧ kYd y n
def kYS (y : MethodName) (b : ByteArray) (mL : Nat) (ret : Option FieldType) (n : Nat) : Prop := Cond.code y b mL ret ∈ kAL ∧ Cond.static y ∈ kAL ∧ Cond.initialized y.cls ∈ kAL ∧ kYd y n
def kYI (y : MethodName) (b : ByteArray) (mL n : Nat) : Prop := Cond.code y b mL none ∈ kAL ∧ Cond.instanceMethod y ∈ kAL ∧ Cond.initialized y.cls ∈ kAL ∧ kYd y n ∧ y.name = "<init>"
def kYW (y : MethodName) (b : ByteArray) (mL : Nat) (ret : Option FieldType) (hh : List (Nat × Nat × Nat × Nat)) (n : Nat) : Prop := Cond.codeWith y b mL ret hh ∈ kAL ∧ Cond.static y ∈ kAL ∧ Cond.initialized y.cls ∈ kAL ∧ kYd y n
theorem mX6_init : kYI yX6_init cX6_init 1 0 := ⟨kq_1_26, kq_1_25, kq_1_1, ⟨by decide +kernel, by decide +kernel, by decide +kernel⟩, rfl⟩
theorem mX0_init : kYI yX0_init cX0_init 1 0 := ⟨kq_1_34, kq_1_33, kq_1_2, ⟨by decide +kernel, by decide +kernel, by decide +kernel⟩, rfl⟩
theorem mX3_init : kYI yX3_init cX3_init 1 0 := ⟨kq_1_54, kq_1_53, kq_1_3, ⟨by decide +kernel, by decide +kernel, by decide +kernel⟩, rfl⟩
theorem mX1_init : kYI yX1_init cX1_init 1 0 := ⟨kq_1_74, kq_1_73, kq_1_4, ⟨by decide +kernel, by decide +kernel, by decide +kernel⟩, rfl⟩
theorem mX5_init : kYI yX5_init cX5_init 1 0 := ⟨kq_1_118, kq_1_117, kq_1_5, ⟨by decide +kernel, by decide +kernel, by decide +kernel⟩, rfl⟩
theorem mX6_rules : kYV yX6_rules cX6_rules 1 (some .int) 0 := ⟨kq_1_152, kq_1_150, kq_1_151, kq_1_1, ⟨by decide +kernel, by decide +kernel, by decide +kernel⟩⟩
theorem mX0_countLive : kYV yX0_countLive cX0_countLive 3 (some .int) 0 := ⟨kq_1_156, kq_1_154, kq_1_155, kq_1_2, ⟨by decide +kernel, by decide +kernel, by decide +kernel⟩⟩
theorem mX0_liveRule : kYV yX0_liveRule cX0_liveRule 3 (some (.object "Parserpark$Rule")) 1 := ⟨kq_1_160, kq_1_158, kq_1_159, kq_1_2, ⟨by decide +kernel, by decide +kernel, by decide +kernel⟩⟩
theorem mX6_work : kYV yX6_work cX6_work 1 (some .long) 0 := ⟨kq_1_164, kq_1_162, kq_1_163, kq_1_1, ⟨by decide +kernel, by decide +kernel, by decide +kernel⟩⟩
theorem mX6_isSound : kYV yX6_isSound cX6_isSound 5 (some .boolean) 0 := ⟨kq_1_168, kq_1_166, kq_1_167, kq_1_1, ⟨by decide +kernel, by decide +kernel, by decide +kernel⟩⟩
theorem mX6_isSoundText : kYV yX6_isSoundText cX6_isSoundText 3 (some .boolean) 1 := ⟨kq_1_172, kq_1_171, kq_p_0, kq_1_1, ⟨by decide +kernel, by decide +kernel, by decide +kernel⟩⟩
theorem mX3_treesOfAll : kYV yX3_treesOfAll cX3_treesOfAll 1 (some .int) 0 := ⟨kq_1_176, kq_1_174, kq_1_175, kq_1_3, ⟨by decide +kernel, by decide +kernel, by decide +kernel⟩⟩
theorem mX3_treesOf : kYV yX3_treesOf cX3_treesOf 4 (some .int) 3 := ⟨kq_1_180, kq_1_178, kq_1_179, kq_1_3, ⟨by decide +kernel, by decide +kernel, by decide +kernel⟩⟩
theorem mX5_treesOfAll : kYV yX5_treesOfAll cX5_treesOfAll 3 (some .int) 2 := ⟨kq_1_184, kq_1_182, kq_1_183, kq_1_5, ⟨by decide +kernel, by decide +kernel, by decide +kernel⟩⟩
theorem mJ7_fill_53178 : kYS yJ7_fill_53178 cJ7_fill_53178 4 none 2 := ⟨kq_1_187, kq_1_186, kq_1_20, ⟨by decide +kernel, by decide +kernel, by decide +kernel⟩⟩
theorem mX5_tryName : kYV yX5_tryName cX5_tryName 11 (some .int) 6 := ⟨kq_1_191, kq_1_190, kq_p_1, kq_1_5, ⟨by decide +kernel, by decide +kernel, by decide +kernel⟩⟩
theorem mX6_spot : kYS yX6_spot cX6_spot 3 (some .int) 3 := ⟨kq_1_194, kq_1_193, kq_1_1, ⟨by decide +kernel, by decide +kernel, by decide +kernel⟩⟩
theorem mX5_tryRule : kYV yX5_tryRule cX5_tryRule 10 (some .int) 6 := ⟨kq_1_199, kq_1_198, kq_p_2, kq_1_5, ⟨by decide +kernel, by decide +kernel, by decide +kernel⟩⟩
theorem mX5_tryPart : kYV yX5_tryPart cX5_tryPart 7 (some .int) 6 := ⟨kq_1_203, kq_1_202, kq_p_3, kq_1_5, ⟨by decide +kernel, by decide +kernel, by decide +kernel⟩⟩
theorem mX6_isLetter : kYS yX6_isLetter cX6_isLetter 1 (some .boolean) 1 := ⟨kq_1_206, kq_1_205, kq_1_1, ⟨by decide +kernel, by decide +kernel, by decide +kernel⟩⟩
theorem mX5_tryBehindFirst : kYV yX5_tryBehindFirst cX5_tryBehindFirst 10 (some .int) 6 := ⟨kq_1_211, kq_1_210, kq_p_4, kq_1_5, ⟨by decide +kernel, by decide +kernel, by decide +kernel⟩⟩
theorem mX6_limited : kYS yX6_limited cX6_limited 1 (some .int) 1 := ⟨kq_1_214, kq_1_213, kq_1_1, ⟨by decide +kernel, by decide +kernel, by decide +kernel⟩⟩
theorem mX3_copyLetters : kYV yX3_copyLetters cX3_copyLetters 3 none 1 := ⟨kq_1_218, kq_1_216, kq_1_217, kq_1_3, ⟨by decide +kernel, by decide +kernel, by decide +kernel⟩⟩
theorem mX3_letterOf : kYV yX3_letterOf cX3_letterOf 2 (some .int) 1 := ⟨kq_1_222, kq_1_220, kq_1_221, kq_1_3, ⟨by decide +kernel, by decide +kernel, by decide +kernel⟩⟩
theorem mX3_put : kYV yX3_put cX3_put 3 none 2 := ⟨kq_1_226, kq_1_224, kq_1_225, kq_1_3, ⟨by decide +kernel, by decide +kernel, by decide +kernel⟩⟩
theorem mX3_findAll : kYV yX3_findAll cX3_findAll 5 (some .int) 1 := ⟨kq_1_230, kq_1_228, kq_1_229, kq_1_3, ⟨by decide +kernel, by decide +kernel, by decide +kernel⟩⟩
theorem mX3_findSpan : kYV yX3_findSpan cX3_findSpan 8 none 3 := ⟨kq_1_234, kq_1_233, kq_p_5, kq_1_3, ⟨by decide +kernel, by decide +kernel, by decide +kernel⟩⟩
theorem mX3_treesByRule : kYV yX3_treesByRule cX3_treesByRule 9 (some .int) 3 := ⟨kq_1_239, kq_1_237, kq_1_238, kq_1_3, ⟨by decide +kernel, by decide +kernel, by decide +kernel⟩⟩
theorem mX3_hasNumbersOf : kYV yX3_hasNumbersOf cX3_hasNumbersOf 5 (some .boolean) 1 := ⟨kq_2_5, kq_2_3, kq_2_4, kq_1_3, ⟨by decide +kernel, by decide +kernel, by decide +kernel⟩⟩
theorem mX1_lay : kYV yX1_lay cX1_lay 9 none 2 := ⟨kq_2_9, kq_2_7, kq_2_8, kq_1_4, ⟨by decide +kernel, by decide +kernel, by decide +kernel⟩⟩
theorem mX1_clear : kYV yX1_clear cX1_clear 1 none 0 := ⟨kq_2_13, kq_2_12, kq_p_6, kq_1_4, ⟨by decide +kernel, by decide +kernel, by decide +kernel⟩⟩
theorem mX1_push : kYV yX1_push cX1_push 5 none 4 := ⟨kq_2_19, kq_2_18, kq_p_7, kq_1_4, ⟨by decide +kernel, by decide +kernel, by decide +kernel⟩⟩
theorem mJ9_max_7cf53 : kYS yJ9_max_7cf53 cJ9_max_7cf53 2 (some .int) 2 := ⟨kq_2_23, kq_2_22, kq_1_15, ⟨by decide +kernel, by decide +kernel, by decide +kernel⟩⟩
theorem mX0_chosenRule : kYV yX0_chosenRule cX0_chosenRule 9 (some (.object "Parserpark$Rule")) 4 := ⟨kq_2_27, kq_2_25, kq_2_26, kq_1_2, ⟨by decide +kernel, by decide +kernel, by decide +kernel⟩⟩
theorem mX3_splitOf : kYV yX3_splitOf cX3_splitOf 7 (some .int) 3 := ⟨kq_2_31, kq_2_29, kq_2_30, kq_1_3, ⟨by decide +kernel, by decide +kernel, by decide +kernel⟩⟩
theorem mX1_layRule : kYV yX1_layRule cX1_layRule 5 none 3 := ⟨kq_2_35, kq_2_34, kq_p_8, kq_1_4, ⟨by decide +kernel, by decide +kernel, by decide +kernel⟩⟩
theorem mX1_pushParts : kYV yX1_pushParts cX1_pushParts 9 none 5 := ⟨kq_2_39, kq_2_38, kq_p_9, kq_1_4, ⟨by decide +kernel, by decide +kernel, by decide +kernel⟩⟩
theorem mX1_setGap : kYV yX1_setGap cX1_setGap 3 none 2 := ⟨kq_2_44, kq_2_43, kq_p_10, kq_1_4, ⟨by decide +kernel, by decide +kernel, by decide +kernel⟩⟩
theorem mL_addRule : kYW yL_addRule cL_addRule 7 (some .int) [(0, 14, 17, 13), (0, 14, 21, 15)] 6 := ⟨kq_2_47, kq_2_46, kq_1_0, ⟨by decide +kernel, by decide +kernel, by decide +kernel⟩⟩
theorem mX6_addRule : kYV yX6_addRule cX6_addRule 6 (some .int) 4 := ⟨kq_2_53, kq_2_51, kq_2_52, kq_1_1, ⟨by decide +kernel, by decide +kernel, by decide +kernel⟩⟩
theorem mX6_isRuleForm : kYS yX6_isRuleForm cX6_isRuleForm 4 (some .boolean) 4 := ⟨kq_2_56, kq_2_55, kq_1_1, ⟨by decide +kernel, by decide +kernel, by decide +kernel⟩⟩
theorem mX6_isName : kYS yX6_isName cX6_isName 1 (some .boolean) 1 := ⟨kq_2_59, kq_2_58, kq_1_1, ⟨by decide +kernel, by decide +kernel, by decide +kernel⟩⟩
theorem mX6_isSymbol : kYS yX6_isSymbol cX6_isSymbol 1 (some .boolean) 1 := ⟨kq_2_62, kq_2_61, kq_1_1, ⟨by decide +kernel, by decide +kernel, by decide +kernel⟩⟩
theorem mX0_hasRoom : kYV yX0_hasRoom cX0_hasRoom 1 (some .boolean) 0 := ⟨kq_2_135, kq_2_133, kq_2_134, kq_1_2, ⟨by decide +kernel, by decide +kernel, by decide +kernel⟩⟩
theorem mX2_init : kYI yX2_init cX2_init 6 5 := ⟨kq_2_155, kq_2_154, kq_1_12, ⟨by decide +kernel, by decide +kernel, by decide +kernel⟩, rfl⟩
theorem mX0_put : kYV yX0_put cX0_put 2 none 1 := ⟨kq_2_210, kq_2_208, kq_2_209, kq_1_2, ⟨by decide +kernel, by decide +kernel, by decide +kernel⟩⟩
theorem mX6_findTouchedBy : kYV yX6_findTouchedBy cX6_findTouchedBy 7 (some .int) 1 := ⟨kq_2_214, kq_2_213, kq_p_12, kq_1_1, ⟨by decide +kernel, by decide +kernel, by decide +kernel⟩⟩
theorem mX3_hasLettersOf : kYV yX3_hasLettersOf cX3_hasLettersOf 2 (some .boolean) 1 := ⟨kq_2_218, kq_2_216, kq_2_217, kq_1_3, ⟨by decide +kernel, by decide +kernel, by decide +kernel⟩⟩
theorem mX3_hasIfLetter : kYV yX3_hasIfLetter cX3_hasIfLetter 3 (some .boolean) 1 := ⟨kq_2_222, kq_2_221, kq_p_13, kq_1_3, ⟨by decide +kernel, by decide +kernel, by decide +kernel⟩⟩
theorem mL_dropRule : kYW yL_dropRule cL_dropRule 4 (some .int) [(0, 9, 12, 21)] 3 := ⟨kq_2_226, kq_2_225, kq_1_0, ⟨by decide +kernel, by decide +kernel, by decide +kernel⟩⟩
theorem mX6_dropRule : kYV yX6_dropRule cX6_dropRule 3 (some .int) 1 := ⟨kq_2_231, kq_2_229, kq_2_230, kq_1_1, ⟨by decide +kernel, by decide +kernel, by decide +kernel⟩⟩
theorem mX6_existingRule : kYV yX6_existingRule cX6_existingRule 3 (some (.object "Parserpark$Rule")) 1 := ⟨kq_2_235, kq_2_234, kq_p_14, kq_1_1, ⟨by decide +kernel, by decide +kernel, by decide +kernel⟩⟩
theorem mL_setRank : kYW yL_setRank cL_setRank 5 (some .int) [(0, 10, 13, 21), (0, 10, 17, 13)] 4 := ⟨kq_3_14, kq_3_13, kq_1_0, ⟨by decide +kernel, by decide +kernel, by decide +kernel⟩⟩
theorem mX6_setRank : kYV yX6_setRank cX6_setRank 5 (some .int) 2 := ⟨kq_3_18, kq_3_16, kq_3_17, kq_1_1, ⟨by decide +kernel, by decide +kernel, by decide +kernel⟩⟩
theorem mX6_isWithin : kYS yX6_isWithin cX6_isWithin 3 (some .boolean) 3 := ⟨kq_3_21, kq_3_20, kq_1_1, ⟨by decide +kernel, by decide +kernel, by decide +kernel⟩⟩
theorem mL_setStyle : kYW yL_setStyle cL_setStyle 6 (some .int) [(0, 12, 15, 21), (0, 12, 19, 13)] 5 := ⟨kq_3_24, kq_3_23, kq_1_0, ⟨by decide +kernel, by decide +kernel, by decide +kernel⟩⟩
theorem mX6_setStyle : kYV yX6_setStyle cX6_setStyle 6 (some .int) 3 := ⟨kq_3_28, kq_3_26, kq_3_27, kq_1_1, ⟨by decide +kernel, by decide +kernel, by decide +kernel⟩⟩
theorem mL_addText : kYW yL_addText cL_addText 4 (some .int) [(0, 9, 12, 13), (0, 9, 15, 15)] 3 := ⟨kq_3_31, kq_3_30, kq_1_0, ⟨by decide +kernel, by decide +kernel, by decide +kernel⟩⟩
theorem mX6_addText : kYV yX6_addText cX6_addText 4 (some .int) 1 := ⟨kq_3_35, kq_3_33, kq_3_34, kq_1_1, ⟨by decide +kernel, by decide +kernel, by decide +kernel⟩⟩
theorem mX6_requireLetter : kYS yX6_requireLetter cX6_requireLetter 1 none 1 := ⟨kq_3_38, kq_3_37, kq_1_1, ⟨by decide +kernel, by decide +kernel, by decide +kernel⟩⟩
theorem mX4_init : kYI yX4_init cX4_init 1 0 := ⟨kq_3_42, kq_3_41, kq_1_14, ⟨by decide +kernel, by decide +kernel, by decide +kernel⟩, rfl⟩
theorem mX3_append : kYV yX3_append cX3_append 2 none 1 := ⟨kq_3_61, kq_3_59, kq_3_60, kq_1_3, ⟨by decide +kernel, by decide +kernel, by decide +kernel⟩⟩
theorem mX3_findHaving : kYV yX3_findHaving cX3_findHaving 7 (some .int) 2 := ⟨kq_3_65, kq_3_63, kq_3_64, kq_1_3, ⟨by decide +kernel, by decide +kernel, by decide +kernel⟩⟩
theorem mJ9_min_7cf53 : kYS yJ9_min_7cf53 cJ9_min_7cf53 2 (some .int) 2 := ⟨kq_3_68, kq_3_67, kq_1_15, ⟨by decide +kernel, by decide +kernel, by decide +kernel⟩⟩
theorem mL_addLetter : kYW yL_addLetter cL_addLetter 5 (some .int) [(0, 10, 13, 37), (0, 10, 17, 13), (0, 10, 21, 15)] 4 := ⟨kq_3_72, kq_3_71, kq_1_0, ⟨by decide +kernel, by decide +kernel, by decide +kernel⟩⟩
theorem mJx00060_init_a7421 : kYI yJx00060_init_a7421 cJx00060_init_a7421 2 1 := ⟨kq_3_76, kq_3_75, kq_1_17, ⟨by decide +kernel, by decide +kernel, by decide +kernel⟩, rfl⟩
theorem mX6_addLetter : kYV yX6_addLetter cX6_addLetter 4 (some .int) 2 := ⟨kq_3_109, kq_3_107, kq_3_108, kq_1_1, ⟨by decide +kernel, by decide +kernel, by decide +kernel⟩⟩
theorem mX6_existingText : kYV yX6_existingText cX6_existingText 3 (some (.object "Parserpark$Text")) 1 := ⟨kq_3_113, kq_3_112, kq_p_15, kq_1_1, ⟨by decide +kernel, by decide +kernel, by decide +kernel⟩⟩
theorem mL_replace : kYW yL_replace cL_replace 6 (some .int) [(0, 12, 15, 37), (0, 12, 19, 13)] 5 := ⟨kq_3_131, kq_3_130, kq_1_0, ⟨by decide +kernel, by decide +kernel, by decide +kernel⟩⟩
theorem mX6_replace : kYV yX6_replace cX6_replace 5 (some .int) 3 := ⟨kq_3_135, kq_3_133, kq_3_134, kq_1_1, ⟨by decide +kernel, by decide +kernel, by decide +kernel⟩⟩
theorem mX6_requirePlace : kYS yX6_requirePlace cX6_requirePlace 2 none 2 := ⟨kq_3_138, kq_3_137, kq_1_1, ⟨by decide +kernel, by decide +kernel, by decide +kernel⟩⟩
theorem mL_length : kYW yL_length cL_length 4 (some .int) [(0, 9, 12, 37)] 3 := ⟨kq_3_142, kq_3_141, kq_1_0, ⟨by decide +kernel, by decide +kernel, by decide +kernel⟩⟩
theorem mX6_length : kYV yX6_length cX6_length 2 (some .int) 1 := ⟨kq_3_146, kq_3_144, kq_3_145, kq_1_1, ⟨by decide +kernel, by decide +kernel, by decide +kernel⟩⟩
theorem mL_letterAt : kYW yL_letterAt cL_letterAt 5 (some .int) [(0, 10, 13, 37)] 4 := ⟨kq_3_149, kq_3_148, kq_1_0, ⟨by decide +kernel, by decide +kernel, by decide +kernel⟩⟩
theorem mX6_letterAt : kYV yX6_letterAt cX6_letterAt 4 (some .int) 2 := ⟨kq_3_153, kq_3_151, kq_3_152, kq_1_1, ⟨by decide +kernel, by decide +kernel, by decide +kernel⟩⟩
theorem mL_trees : kYW yL_trees cL_trees 4 (some .int) [(0, 9, 12, 37)] 3 := ⟨kq_3_157, kq_3_156, kq_1_0, ⟨by decide +kernel, by decide +kernel, by decide +kernel⟩⟩
theorem mX6_trees : kYV yX6_trees cX6_trees 2 (some .int) 1 := ⟨kq_3_161, kq_3_159, kq_3_160, kq_1_1, ⟨by decide +kernel, by decide +kernel, by decide +kernel⟩⟩
theorem mL_treesByTrying : kYW yL_treesByTrying cL_treesByTrying 4 (some .int) [(0, 9, 12, 37), (0, 9, 15, 54)] 3 := ⟨kq_3_164, kq_3_163, kq_1_0, ⟨by decide +kernel, by decide +kernel, by decide +kernel⟩⟩
theorem mX6_treesByTrying : kYV yX6_treesByTrying cX6_treesByTrying 3 (some .int) 1 := ⟨kq_3_169, kq_3_167, kq_3_168, kq_1_1, ⟨by decide +kernel, by decide +kernel, by decide +kernel⟩⟩
theorem mL_treesOver : kYW yL_treesOver cL_treesOver 7 (some .int) [(0, 14, 17, 37), (0, 14, 21, 13)] 6 := ⟨kq_3_187, kq_3_186, kq_1_0, ⟨by decide +kernel, by decide +kernel, by decide +kernel⟩⟩
theorem mX6_treesOver : kYV yX6_treesOver cX6_treesOver 6 (some .int) 4 := ⟨kq_3_191, kq_3_189, kq_3_190, kq_1_1, ⟨by decide +kernel, by decide +kernel, by decide +kernel⟩⟩
theorem mL_size : kYW yL_size cL_size 4 (some .int) [(0, 9, 12, 37)] 3 := ⟨kq_3_195, kq_3_194, kq_1_0, ⟨by decide +kernel, by decide +kernel, by decide +kernel⟩⟩
theorem mX6_size : kYV yX6_size cX6_size 2 (some .int) 1 := ⟨kq_3_199, kq_3_197, kq_3_198, kq_1_1, ⟨by decide +kernel, by decide +kernel, by decide +kernel⟩⟩
theorem mX6_layOut : kYV yX6_layOut cX6_layOut 2 none 1 := ⟨kq_3_203, kq_3_202, kq_p_16, kq_1_1, ⟨by decide +kernel, by decide +kernel, by decide +kernel⟩⟩
theorem mL_ruleAt : kYW yL_ruleAt cL_ruleAt 5 (some .int) [(0, 10, 13, 37), (0, 10, 17, 21)] 4 := ⟨kq_3_206, kq_3_205, kq_1_0, ⟨by decide +kernel, by decide +kernel, by decide +kernel⟩⟩
theorem mX6_ruleAt : kYV yX6_ruleAt cX6_ruleAt 3 (some .int) 2 := ⟨kq_3_210, kq_3_208, kq_3_209, kq_1_1, ⟨by decide +kernel, by decide +kernel, by decide +kernel⟩⟩
theorem mX1_ruleNumber : kYV yX1_ruleNumber cX1_ruleNumber 2 (some .int) 1 := ⟨kq_3_214, kq_3_212, kq_3_213, kq_1_4, ⟨by decide +kernel, by decide +kernel, by decide +kernel⟩⟩
theorem mL_depth : kYW yL_depth cL_depth 4 (some .int) [(0, 9, 12, 37)] 3 := ⟨kq_3_217, kq_3_216, kq_1_0, ⟨by decide +kernel, by decide +kernel, by decide +kernel⟩⟩
theorem mX6_depth : kYV yX6_depth cX6_depth 2 (some .int) 1 := ⟨kq_3_221, kq_3_219, kq_3_220, kq_1_1, ⟨by decide +kernel, by decide +kernel, by decide +kernel⟩⟩
theorem mL_colourAt : kYW yL_colourAt cL_colourAt 5 (some .int) [(0, 10, 13, 37)] 4 := ⟨kq_3_224, kq_3_223, kq_1_0, ⟨by decide +kernel, by decide +kernel, by decide +kernel⟩⟩
theorem mX6_colourAt : kYV yX6_colourAt cX6_colourAt 4 (some .int) 2 := ⟨kq_3_228, kq_3_226, kq_3_227, kq_1_1, ⟨by decide +kernel, by decide +kernel, by decide +kernel⟩⟩
theorem mX1_colourOf : kYV yX1_colourOf cX1_colourOf 2 (some .int) 1 := ⟨kq_3_232, kq_3_230, kq_3_231, kq_1_4, ⟨by decide +kernel, by decide +kernel, by decide +kernel⟩⟩
theorem mL_formatted : kYW yL_formatted cL_formatted 4 (some .int) [(0, 9, 12, 37)] 3 := ⟨kq_3_235, kq_3_234, kq_1_0, ⟨by decide +kernel, by decide +kernel, by decide +kernel⟩⟩
theorem mX6_formatted : kYV yX6_formatted cX6_formatted 2 (some .int) 1 := ⟨kq_3_239, kq_3_237, kq_3_238, kq_1_1, ⟨by decide +kernel, by decide +kernel, by decide +kernel⟩⟩
theorem mX1_countSigns : kYV yX1_countSigns cX1_countSigns 6 (some .int) 0 := ⟨kq_4_3, kq_4_1, kq_4_2, kq_1_4, ⟨by decide +kernel, by decide +kernel, by decide +kernel⟩⟩
theorem mL_formattedAt : kYW yL_formattedAt cL_formattedAt 5 (some .int) [(0, 10, 13, 37), (0, 10, 17, 21)] 4 := ⟨kq_4_6, kq_4_5, kq_1_0, ⟨by decide +kernel, by decide +kernel, by decide +kernel⟩⟩
theorem mX6_formattedAt : kYV yX6_formattedAt cX6_formattedAt 4 (some .char) 2 := ⟨kq_4_10, kq_4_8, kq_4_9, kq_1_1, ⟨by decide +kernel, by decide +kernel, by decide +kernel⟩⟩
theorem mX1_sign : kYV yX1_sign cX1_sign 5 (some .char) 2 := ⟨kq_4_14, kq_4_12, kq_4_13, kq_1_4, ⟨by decide +kernel, by decide +kernel, by decide +kernel⟩⟩
theorem mL_accept : kYW yL_accept cL_accept 4 (some .int) [(0, 9, 12, 37), (0, 9, 15, 15)] 3 := ⟨kq_4_18, kq_4_17, kq_1_0, ⟨by decide +kernel, by decide +kernel, by decide +kernel⟩⟩
theorem mX6_accept : kYV yX6_accept cX6_accept 3 (some .int) 1 := ⟨kq_4_22, kq_4_20, kq_4_21, kq_1_1, ⟨by decide +kernel, by decide +kernel, by decide +kernel⟩⟩
theorem mX4_keep : kYV yX4_keep cX4_keep 3 none 1 := ⟨kq_4_26, kq_4_24, kq_4_25, kq_1_14, ⟨by decide +kernel, by decide +kernel, by decide +kernel⟩⟩
theorem mL_fault : kYW yL_fault cL_fault 4 (some .int) [(0, 9, 12, 37)] 3 := ⟨kq_4_31, kq_4_30, kq_1_0, ⟨by decide +kernel, by decide +kernel, by decide +kernel⟩⟩
theorem mX6_fault : kYV yX6_fault cX6_fault 2 (some .char) 1 := ⟨kq_4_35, kq_4_33, kq_4_34, kq_1_1, ⟨by decide +kernel, by decide +kernel, by decide +kernel⟩⟩
theorem mX6_faultOf : kYV yX6_faultOf cX6_faultOf 3 (some .char) 1 := ⟨kq_4_39, kq_4_38, kq_p_17, kq_1_1, ⟨by decide +kernel, by decide +kernel, by decide +kernel⟩⟩
theorem mX4_hasAccepted : kYV yX4_hasAccepted cX4_hasAccepted 3 (some .boolean) 1 := ⟨kq_4_43, kq_4_41, kq_4_42, kq_1_14, ⟨by decide +kernel, by decide +kernel, by decide +kernel⟩⟩
theorem mL_release : kYW yL_release cL_release 3 (some .int) [(0, 8, 11, 15), (0, 8, 14, 54)] 2 := ⟨kq_4_46, kq_4_45, kq_1_0, ⟨by decide +kernel, by decide +kernel, by decide +kernel⟩⟩
theorem mX6_release : kYV yX6_release cX6_release 1 (some .int) 0 := ⟨kq_4_50, kq_4_48, kq_4_49, kq_1_1, ⟨by decide +kernel, by decide +kernel, by decide +kernel⟩⟩
theorem mX6_countClean : kYV yX6_countClean cX6_countClean 6 (some .int) 0 := ⟨kq_4_54, kq_4_53, kq_p_18, kq_1_1, ⟨by decide +kernel, by decide +kernel, by decide +kernel⟩⟩
theorem mL_ambiguous : kYW yL_ambiguous cL_ambiguous 5 (some .int) [(0, 10, 13, 13), (0, 10, 17, 21)] 4 := ⟨kq_4_57, kq_4_56, kq_1_0, ⟨by decide +kernel, by decide +kernel, by decide +kernel⟩⟩
theorem mX6_ambiguous : kYV yX6_ambiguous cX6_ambiguous 3 (some .int) 2 := ⟨kq_4_61, kq_4_59, kq_4_60, kq_1_1, ⟨by decide +kernel, by decide +kernel, by decide +kernel⟩⟩
theorem mX6_lengthOfAmbiguousRow : kYV yX6_lengthOfAmbiguousRow cX6_lengthOfAmbiguousRow 4 (some .int) 2 := ⟨kq_4_65, kq_4_64, kq_p_19, kq_1_1, ⟨by decide +kernel, by decide +kernel, by decide +kernel⟩⟩
theorem mX6_findAmbiguousRow : kYV yX6_findAmbiguousRow cX6_findAmbiguousRow 4 (some .boolean) 2 := ⟨kq_4_69, kq_4_68, kq_p_20, kq_1_1, ⟨by decide +kernel, by decide +kernel, by decide +kernel⟩⟩
theorem mX3_startRow : kYV yX3_startRow cX3_startRow 2 none 1 := ⟨kq_4_73, kq_4_71, kq_4_72, kq_1_3, ⟨by decide +kernel, by decide +kernel, by decide +kernel⟩⟩
theorem mX3_nextRow : kYV yX3_nextRow cX3_nextRow 4 (some .boolean) 1 := ⟨kq_4_78, kq_4_76, kq_4_77, kq_1_3, ⟨by decide +kernel, by decide +kernel, by decide +kernel⟩⟩
theorem mL_ambiguousAt : kYW yL_ambiguousAt cL_ambiguousAt 6 (some .int) [(0, 12, 15, 13), (0, 12, 19, 21)] 5 := ⟨kq_4_81, kq_4_80, kq_1_0, ⟨by decide +kernel, by decide +kernel, by decide +kernel⟩⟩
theorem mX6_ambiguousAt : kYV yX6_ambiguousAt cX6_ambiguousAt 5 (some .int) 3 := ⟨kq_4_85, kq_4_83, kq_4_84, kq_1_1, ⟨by decide +kernel, by decide +kernel, by decide +kernel⟩⟩
theorem mL_cleanShare : kYW yL_cleanShare cL_cleanShare 3 (some .int) [(0, 8, 11, 99)] 2 := ⟨kq_4_88, kq_4_87, kq_1_0, ⟨by decide +kernel, by decide +kernel, by decide +kernel⟩⟩
theorem mX6_cleanShare : kYV yX6_cleanShare cX6_cleanShare 1 (some .float) 0 := ⟨kq_4_106, kq_4_104, kq_4_105, kq_1_1, ⟨by decide +kernel, by decide +kernel, by decide +kernel⟩⟩
theorem mL_meanTrees : kYW yL_meanTrees cL_meanTrees 3 (some .int) [(0, 7, 10, 99)] 2 := ⟨kq_4_114, kq_4_113, kq_1_0, ⟨by decide +kernel, by decide +kernel, by decide +kernel⟩⟩
theorem mX6_meanTrees : kYV yX6_meanTrees cX6_meanTrees 6 (some .double) 0 := ⟨kq_4_118, kq_4_116, kq_4_117, kq_1_1, ⟨by decide +kernel, by decide +kernel, by decide +kernel⟩⟩
theorem mX7_init : kYI yX7_init cX7_init 1 0 := ⟨kq_4_123, kq_4_122, kq_1_6, ⟨by decide +kernel, by decide +kernel, by decide +kernel⟩, rfl⟩
theorem mX7_thrown : kYV yX7_thrown cX7_thrown 1 (some .int) 0 := ⟨kq_4_206, kq_4_204, kq_4_205, kq_1_6, ⟨by decide +kernel, by decide +kernel, by decide +kernel⟩⟩
theorem mX7_addRule : kYV yX7_addRule cX7_addRule 6 (some .int) 4 := ⟨kq_4_210, kq_4_208, kq_4_209, kq_1_6, ⟨by decide +kernel, by decide +kernel, by decide +kernel⟩⟩
theorem mX7_isName : kYS yX7_isName cX7_isName 1 (some .boolean) 1 := ⟨kq_4_213, kq_4_212, kq_1_6, ⟨by decide +kernel, by decide +kernel, by decide +kernel⟩⟩
theorem mX7_in : kYS yX7_in cX7_in 6 (some .boolean) 3 := ⟨kq_4_218, kq_4_217, kq_1_6, ⟨by decide +kernel, by decide +kernel, by decide +kernel⟩⟩
theorem mX7_isSymbol : kYS yX7_isSymbol cX7_isSymbol 1 (some .boolean) 1 := ⟨kq_4_221, kq_4_220, kq_1_6, ⟨by decide +kernel, by decide +kernel, by decide +kernel⟩⟩
theorem mX7_isLetter : kYS yX7_isLetter cX7_isLetter 1 (some .boolean) 1 := ⟨kq_4_224, kq_4_223, kq_1_6, ⟨by decide +kernel, by decide +kernel, by decide +kernel⟩⟩
theorem mX7_touched : kYV yX7_touched cX7_touched 9 (some .int) 1 := ⟨kq_4_229, kq_4_228, kq_p_21, kq_1_6, ⟨by decide +kernel, by decide +kernel, by decide +kernel⟩⟩
theorem mX7_dropRule : kYV yX7_dropRule cX7_dropRule 2 (some .int) 1 := ⟨kq_4_233, kq_4_231, kq_4_232, kq_1_6, ⟨by decide +kernel, by decide +kernel, by decide +kernel⟩⟩
theorem mX7_isRule : kYV yX7_isRule cX7_isRule 2 (some .boolean) 1 := ⟨kq_4_237, kq_4_236, kq_p_22, kq_1_6, ⟨by decide +kernel, by decide +kernel, by decide +kernel⟩⟩
theorem mX7_setRank : kYV yX7_setRank cX7_setRank 4 (some .int) 2 := ⟨kq_5_1, kq_4_239, kq_5_0, kq_1_6, ⟨by decide +kernel, by decide +kernel, by decide +kernel⟩⟩
theorem mX7_setStyle : kYV yX7_setStyle cX7_setStyle 5 (some .int) 3 := ⟨kq_5_6, kq_5_4, kq_5_5, kq_1_6, ⟨by decide +kernel, by decide +kernel, by decide +kernel⟩⟩
theorem mX7_rules : kYV yX7_rules cX7_rules 3 (some .int) 0 := ⟨kq_5_11, kq_5_9, kq_5_10, kq_1_6, ⟨by decide +kernel, by decide +kernel, by decide +kernel⟩⟩
theorem mX7_addText : kYV yX7_addText cX7_addText 2 (some .int) 1 := ⟨kq_5_15, kq_5_13, kq_5_14, kq_1_6, ⟨by decide +kernel, by decide +kernel, by decide +kernel⟩⟩
theorem mX7_addLetter : kYV yX7_addLetter cX7_addLetter 3 (some .int) 2 := ⟨kq_5_19, kq_5_17, kq_5_18, kq_1_6, ⟨by decide +kernel, by decide +kernel, by decide +kernel⟩⟩
theorem mX7_isText : kYV yX7_isText cX7_isText 2 (some .boolean) 1 := ⟨kq_5_23, kq_5_22, kq_p_23, kq_1_6, ⟨by decide +kernel, by decide +kernel, by decide +kernel⟩⟩
theorem mX7_laysText : kYV yX7_laysText cX7_laysText 3 (some .int) 1 := ⟨kq_5_27, kq_5_26, kq_p_24, kq_1_6, ⟨by decide +kernel, by decide +kernel, by decide +kernel⟩⟩
theorem mX7_lays : kYV yX7_lays cX7_lays 7 none 0 := ⟨kq_5_31, kq_5_30, kq_p_25, kq_1_6, ⟨by decide +kernel, by decide +kernel, by decide +kernel⟩⟩
theorem mX7_ways : kYV yX7_ways cX7_ways 7 (some .int) 3 := ⟨kq_5_35, kq_5_34, kq_p_26, kq_1_6, ⟨by decide +kernel, by decide +kernel, by decide +kernel⟩⟩
theorem mX7_part : kYV yX7_part cX7_part 4 (some .int) 3 := ⟨kq_5_39, kq_5_38, kq_p_27, kq_1_6, ⟨by decide +kernel, by decide +kernel, by decide +kernel⟩⟩
theorem mX7_twoParts : kYV yX7_twoParts cX7_twoParts 7 (some .int) 4 := ⟨kq_5_43, kq_5_42, kq_p_28, kq_1_6, ⟨by decide +kernel, by decide +kernel, by decide +kernel⟩⟩
theorem mX7_held : kYS yX7_held cX7_held 1 (some .int) 1 := ⟨kq_5_46, kq_5_45, kq_1_6, ⟨by decide +kernel, by decide +kernel, by decide +kernel⟩⟩
theorem mX7_replace : kYV yX7_replace cX7_replace 4 (some .int) 3 := ⟨kq_5_50, kq_5_48, kq_5_49, kq_1_6, ⟨by decide +kernel, by decide +kernel, by decide +kernel⟩⟩
theorem mX7_isPlace : kYV yX7_isPlace cX7_isPlace 3 (some .boolean) 2 := ⟨kq_5_54, kq_5_53, kq_p_29, kq_1_6, ⟨by decide +kernel, by decide +kernel, by decide +kernel⟩⟩
theorem mX7_length : kYV yX7_length cX7_length 2 (some .int) 1 := ⟨kq_5_58, kq_5_56, kq_5_57, kq_1_6, ⟨by decide +kernel, by decide +kernel, by decide +kernel⟩⟩
theorem mX7_asks : kYV yX7_asks cX7_asks 2 (some .boolean) 1 := ⟨kq_5_62, kq_5_61, kq_p_30, kq_1_6, ⟨by decide +kernel, by decide +kernel, by decide +kernel⟩⟩
theorem mX7_letterAt : kYV yX7_letterAt cX7_letterAt 3 (some .int) 2 := ⟨kq_5_66, kq_5_64, kq_5_65, kq_1_6, ⟨by decide +kernel, by decide +kernel, by decide +kernel⟩⟩
theorem mX7_trees : kYV yX7_trees cX7_trees 2 (some .int) 1 := ⟨kq_5_70, kq_5_68, kq_5_69, kq_1_6, ⟨by decide +kernel, by decide +kernel, by decide +kernel⟩⟩
theorem mX7_treesByTrying : kYV yX7_treesByTrying cX7_treesByTrying 2 (some .int) 1 := ⟨kq_5_74, kq_5_72, kq_5_73, kq_1_6, ⟨by decide +kernel, by decide +kernel, by decide +kernel⟩⟩
theorem mX7_treesOver : kYV yX7_treesOver cX7_treesOver 6 (some .int) 4 := ⟨kq_5_78, kq_5_76, kq_5_77, kq_1_6, ⟨by decide +kernel, by decide +kernel, by decide +kernel⟩⟩
theorem mX7_size : kYV yX7_size cX7_size 2 (some .int) 1 := ⟨kq_5_82, kq_5_80, kq_5_81, kq_1_6, ⟨by decide +kernel, by decide +kernel, by decide +kernel⟩⟩
theorem mX7_walksText : kYV yX7_walksText cX7_walksText 4 (some .int) 1 := ⟨kq_5_86, kq_5_85, kq_p_31, kq_1_6, ⟨by decide +kernel, by decide +kernel, by decide +kernel⟩⟩
theorem mX7_walks : kYV yX7_walks cX7_walks 11 none 5 := ⟨kq_5_90, kq_5_89, kq_p_32, kq_1_6, ⟨by decide +kernel, by decide +kernel, by decide +kernel⟩⟩
theorem mX7_chosen : kYV yX7_chosen cX7_chosen 7 (some .int) 3 := ⟨kq_5_94, kq_5_93, kq_p_33, kq_1_6, ⟨by decide +kernel, by decide +kernel, by decide +kernel⟩⟩
theorem mX7_sees : kYV yX7_sees cX7_sees 6 none 5 := ⟨kq_5_98, kq_5_97, kq_p_34, kq_1_6, ⟨by decide +kernel, by decide +kernel, by decide +kernel⟩⟩
theorem mX7_cut : kYV yX7_cut cX7_cut 6 (some .int) 4 := ⟨kq_5_102, kq_5_101, kq_p_35, kq_1_6, ⟨by decide +kernel, by decide +kernel, by decide +kernel⟩⟩
theorem mX7_blanks : kYV yX7_blanks cX7_blanks 3 none 1 := ⟨kq_5_106, kq_5_105, kq_p_36, kq_1_6, ⟨by decide +kernel, by decide +kernel, by decide +kernel⟩⟩
theorem mX7_ruleAt : kYV yX7_ruleAt cX7_ruleAt 3 (some .int) 2 := ⟨kq_5_110, kq_5_108, kq_5_109, kq_1_6, ⟨by decide +kernel, by decide +kernel, by decide +kernel⟩⟩
theorem mX7_depth : kYV yX7_depth cX7_depth 2 (some .int) 1 := ⟨kq_5_114, kq_5_112, kq_5_113, kq_1_6, ⟨by decide +kernel, by decide +kernel, by decide +kernel⟩⟩
theorem mX7_colourAt : kYV yX7_colourAt cX7_colourAt 3 (some .int) 2 := ⟨kq_5_118, kq_5_116, kq_5_117, kq_1_6, ⟨by decide +kernel, by decide +kernel, by decide +kernel⟩⟩
theorem mX7_formatted : kYV yX7_formatted cX7_formatted 2 (some .int) 1 := ⟨kq_5_122, kq_5_120, kq_5_121, kq_1_6, ⟨by decide +kernel, by decide +kernel, by decide +kernel⟩⟩
theorem mX7_formattedAt : kYV yX7_formattedAt cX7_formattedAt 3 (some .char) 2 := ⟨kq_5_126, kq_5_124, kq_5_125, kq_1_6, ⟨by decide +kernel, by decide +kernel, by decide +kernel⟩⟩
theorem mX7_accept : kYV yX7_accept cX7_accept 3 (some .int) 1 := ⟨kq_5_130, kq_5_128, kq_5_129, kq_1_6, ⟨by decide +kernel, by decide +kernel, by decide +kernel⟩⟩
theorem mX7_fault : kYV yX7_fault cX7_fault 2 (some .char) 1 := ⟨kq_5_134, kq_5_132, kq_5_133, kq_1_6, ⟨by decide +kernel, by decide +kernel, by decide +kernel⟩⟩
theorem mX7_faultOf : kYV yX7_faultOf cX7_faultOf 5 (some .char) 1 := ⟨kq_5_138, kq_5_137, kq_p_37, kq_1_6, ⟨by decide +kernel, by decide +kernel, by decide +kernel⟩⟩
theorem mX7_release : kYV yX7_release cX7_release 1 (some .int) 0 := ⟨kq_5_142, kq_5_140, kq_5_141, kq_1_6, ⟨by decide +kernel, by decide +kernel, by decide +kernel⟩⟩
theorem mX7_clean : kYV yX7_clean cX7_clean 3 (some .int) 0 := ⟨kq_5_146, kq_5_145, kq_p_38, kq_1_6, ⟨by decide +kernel, by decide +kernel, by decide +kernel⟩⟩
theorem mX7_ambiguous : kYV yX7_ambiguous cX7_ambiguous 3 (some .int) 2 := ⟨kq_5_150, kq_5_148, kq_5_149, kq_1_6, ⟨by decide +kernel, by decide +kernel, by decide +kernel⟩⟩
theorem mX7_asksRow : kYV yX7_asksRow cX7_asksRow 4 (some .boolean) 2 := ⟨kq_5_154, kq_5_153, kq_p_39, kq_1_6, ⟨by decide +kernel, by decide +kernel, by decide +kernel⟩⟩
theorem mX7_finds : kYV yX7_finds cX7_finds 7 (some .boolean) 2 := ⟨kq_5_159, kq_5_158, kq_p_40, kq_1_6, ⟨by decide +kernel, by decide +kernel, by decide +kernel⟩⟩
theorem mX7_ambiguousAt : kYV yX7_ambiguousAt cX7_ambiguousAt 4 (some .int) 3 := ⟨kq_5_163, kq_5_161, kq_5_162, kq_1_6, ⟨by decide +kernel, by decide +kernel, by decide +kernel⟩⟩
theorem mX7_work : kYV yX7_work cX7_work 1 (some .long) 0 := ⟨kq_5_167, kq_5_165, kq_5_166, kq_1_6, ⟨by decide +kernel, by decide +kernel, by decide +kernel⟩⟩
theorem mX7_cleanShare : kYV yX7_cleanShare cX7_cleanShare 1 (some .float) 0 := ⟨kq_5_171, kq_5_169, kq_5_170, kq_1_6, ⟨by decide +kernel, by decide +kernel, by decide +kernel⟩⟩
theorem mX7_meanTrees : kYV yX7_meanTrees cX7_meanTrees 3 (some .double) 0 := ⟨kq_5_175, kq_5_173, kq_5_174, kq_1_6, ⟨by decide +kernel, by decide +kernel, by decide +kernel⟩⟩
theorem mX7_isSound : kYV yX7_isSound cX7_isSound 1 (some .boolean) 0 := ⟨kq_5_179, kq_5_177, kq_5_178, kq_1_6, ⟨by decide +kernel, by decide +kernel, by decide +kernel⟩⟩
