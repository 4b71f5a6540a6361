section
-- ===== PART A: goes FIRST, ahead of the names: the tables' words, and 'selects' of the private methods out of them =====
/-- a private method of a class that the tables say can be made, by its rows of tables_1 -/
def lw_okq (q : MethodName × Nat) : Prop := (q.1.cls ≠ "java/lang/invoke/MethodHandle" ∧ q.1.cls ≠ "java/lang/invoke/VarHandle") ∧ Cond.instantiable q.1.cls q.2 ∈ tables_1 ∧ Cond.privateMethod q.1 ∈ tables_1 ∧ Cond.instanceMethod q.1 ∈ tables_1
theorem lw_p0 : lw_okq (⟨"Parserpark", "isSoundText", "(LParserpark$Spans;)Z"⟩, 8) := ⟨⟨by decide +kernel, by decide +kernel⟩, List.mem_of_getElem? (i := 23) (by decide +kernel), List.mem_of_getElem? (i := 170) (by decide +kernel), List.mem_of_getElem? (i := 171) (by decide +kernel)⟩
theorem lw_p1 : lw_okq (⟨"Parserpark$Trial", "tryName", "(LParserpark$Grammar;LParserpark$Spans;IIII)I"⟩, 1) := ⟨⟨by decide +kernel, by decide +kernel⟩, List.mem_of_getElem? (i := 115) (by decide +kernel), List.mem_of_getElem? (i := 189) (by decide +kernel), List.mem_of_getElem? (i := 190) (by decide +kernel)⟩
theorem lw_p2 : lw_okq (⟨"Parserpark$Trial", "tryRule", "(LParserpark$Grammar;LParserpark$Spans;LParserpark$Rule;III)I"⟩, 1) := ⟨⟨by decide +kernel, by decide +kernel⟩, List.mem_of_getElem? (i := 115) (by decide +kernel), List.mem_of_getElem? (i := 197) (by decide +kernel), List.mem_of_getElem? (i := 198) (by decide +kernel)⟩
theorem lw_p3 : lw_okq (⟨"Parserpark$Trial", "tryPart", "(LParserpark$Grammar;LParserpark$Spans;IIII)I"⟩, 1) := ⟨⟨by decide +kernel, by decide +kernel⟩, List.mem_of_getElem? (i := 115) (by decide +kernel), List.mem_of_getElem? (i := 201) (by decide +kernel), List.mem_of_getElem? (i := 202) (by decide +kernel)⟩
theorem lw_p4 : lw_okq (⟨"Parserpark$Trial", "tryBehindFirst", "(LParserpark$Grammar;LParserpark$Spans;LParserpark$Rule;III)I"⟩, 1) := ⟨⟨by decide +kernel, by decide +kernel⟩, List.mem_of_getElem? (i := 115) (by decide +kernel), List.mem_of_getElem? (i := 209) (by decide +kernel), List.mem_of_getElem? (i := 210) (by decide +kernel)⟩
theorem lw_p5 : lw_okq (⟨"Parserpark$Spans", "findSpan", "(LParserpark$Grammar;II)V"⟩, 3) := ⟨⟨by decide +kernel, by decide +kernel⟩, List.mem_of_getElem? (i := 51) (by decide +kernel), List.mem_of_getElem? (i := 232) (by decide +kernel), List.mem_of_getElem? (i := 233) (by decide +kernel)⟩
theorem lw_p6 : lw_okq (⟨"Parserpark$Layout", "clear", "()V"⟩, 11) := ⟨⟨by decide +kernel, by decide +kernel⟩, List.mem_of_getElem? (i := 71) (by decide +kernel), List.mem_of_getElem? (i := 251) (by decide +kernel), List.mem_of_getElem? (i := 252) (by decide +kernel)⟩
theorem lw_p7 : lw_okq (⟨"Parserpark$Layout", "push", "(IIII)V"⟩, 11) := ⟨⟨by decide +kernel, by decide +kernel⟩, List.mem_of_getElem? (i := 71) (by decide +kernel), List.mem_of_getElem? (i := 257) (by decide +kernel), List.mem_of_getElem? (i := 258) (by decide +kernel)⟩
theorem lw_p8 : lw_okq (⟨"Parserpark$Layout", "layRule", "(LParserpark$Rule;II)V"⟩, 11) := ⟨⟨by decide +kernel, by decide +kernel⟩, List.mem_of_getElem? (i := 71) (by decide +kernel), List.mem_of_getElem? (i := 273) (by decide +kernel), List.mem_of_getElem? (i := 274) (by decide +kernel)⟩
theorem lw_p9 : lw_okq (⟨"Parserpark$Layout", "pushParts", "(LParserpark$Spans;LParserpark$Rule;III)V"⟩, 11) := ⟨⟨by decide +kernel, by decide +kernel⟩, List.mem_of_getElem? (i := 71) (by decide +kernel), List.mem_of_getElem? (i := 277) (by decide +kernel), List.mem_of_getElem? (i := 278) (by decide +kernel)⟩
theorem lw_p10 : lw_okq (⟨"Parserpark$Layout", "setGap", "(II)V"⟩, 11) := ⟨⟨by decide +kernel, by decide +kernel⟩, List.mem_of_getElem? (i := 71) (by decide +kernel), List.mem_of_getElem? (i := 282) (by decide +kernel), List.mem_of_getElem? (i := 283) (by decide +kernel)⟩
theorem lw_p11 : lw_okq (⟨"java/lang/Throwable", "fillInStackTrace", "(I)Ljava/lang/Throwable;"⟩, 6) := ⟨⟨by decide +kernel, by decide +kernel⟩, List.mem_of_getElem? (i := 347) (by decide +kernel), List.mem_of_getElem? (i := 345) (by decide +kernel), List.mem_of_getElem? (i := 346) (by decide +kernel)⟩
theorem lw_p12 : lw_okq (⟨"Parserpark", "findTouchedBy", "(LParserpark$Rule;)I"⟩, 8) := ⟨⟨by decide +kernel, by decide +kernel⟩, List.mem_of_getElem? (i := 23) (by decide +kernel), List.mem_of_getElem? (i := 452) (by decide +kernel), List.mem_of_getElem? (i := 453) (by decide +kernel)⟩
theorem lw_p13 : lw_okq (⟨"Parserpark$Spans", "hasIfLetter", "(I)Z"⟩, 3) := ⟨⟨by decide +kernel, by decide +kernel⟩, List.mem_of_getElem? (i := 51) (by decide +kernel), List.mem_of_getElem? (i := 460) (by decide +kernel), List.mem_of_getElem? (i := 461) (by decide +kernel)⟩
theorem lw_p14 : lw_okq (⟨"Parserpark", "existingRule", "(I)LParserpark$Rule;"⟩, 8) := ⟨⟨by decide +kernel, by decide +kernel⟩, List.mem_of_getElem? (i := 23) (by decide +kernel), List.mem_of_getElem? (i := 473) (by decide +kernel), List.mem_of_getElem? (i := 474) (by decide +kernel)⟩
theorem lw_p15 : lw_okq (⟨"Parserpark", "existingText", "(I)LParserpark$Text;"⟩, 8) := ⟨⟨by decide +kernel, by decide +kernel⟩, List.mem_of_getElem? (i := 23) (by decide +kernel), List.mem_of_getElem? (i := 591) (by decide +kernel), List.mem_of_getElem? (i := 592) (by decide +kernel)⟩
def lw_privs_1 : List (MethodName × Nat) := [(⟨"Parserpark", "isSoundText", "(LParserpark$Spans;)Z"⟩, 8), (⟨"Parserpark$Trial", "tryName", "(LParserpark$Grammar;LParserpark$Spans;IIII)I"⟩, 1), (⟨"Parserpark$Trial", "tryRule", "(LParserpark$Grammar;LParserpark$Spans;LParserpark$Rule;III)I"⟩, 1), (⟨"Parserpark$Trial", "tryPart", "(LParserpark$Grammar;LParserpark$Spans;IIII)I"⟩, 1), (⟨"Parserpark$Trial", "tryBehindFirst", "(LParserpark$Grammar;LParserpark$Spans;LParserpark$Rule;III)I"⟩, 1), (⟨"Parserpark$Spans", "findSpan", "(LParserpark$Grammar;II)V"⟩, 3), (⟨"Parserpark$Layout", "clear", "()V"⟩, 11), (⟨"Parserpark$Layout", "push", "(IIII)V"⟩, 11), (⟨"Parserpark$Layout", "layRule", "(LParserpark$Rule;II)V"⟩, 11), (⟨"Parserpark$Layout", "pushParts", "(LParserpark$Spans;LParserpark$Rule;III)V"⟩, 11), (⟨"Parserpark$Layout", "setGap", "(II)V"⟩, 11), (⟨"java/lang/Throwable", "fillInStackTrace", "(I)Ljava/lang/Throwable;"⟩, 6), (⟨"Parserpark", "findTouchedBy", "(LParserpark$Rule;)I"⟩, 8), (⟨"Parserpark$Spans", "hasIfLetter", "(I)Z"⟩, 3), (⟨"Parserpark", "existingRule", "(I)LParserpark$Rule;"⟩, 8), (⟨"Parserpark", "existingText", "(I)LParserpark$Text;"⟩, 8)]
theorem lw_r1 : ∀ q ∈ lw_privs_1, lw_okq q := List.forall_mem_cons.mpr ⟨lw_p0, List.forall_mem_cons.mpr ⟨lw_p1, List.forall_mem_cons.mpr ⟨lw_p2, List.forall_mem_cons.mpr ⟨lw_p3, List.forall_mem_cons.mpr ⟨lw_p4, List.forall_mem_cons.mpr ⟨lw_p5, List.forall_mem_cons.mpr ⟨lw_p6, List.forall_mem_cons.mpr ⟨lw_p7, List.forall_mem_cons.mpr ⟨lw_p8, List.forall_mem_cons.mpr ⟨lw_p9, List.forall_mem_cons.mpr ⟨lw_p10, List.forall_mem_cons.mpr ⟨lw_p11, List.forall_mem_cons.mpr ⟨lw_p12, List.forall_mem_cons.mpr ⟨lw_p13, List.forall_mem_cons.mpr ⟨lw_p14, List.forall_mem_cons.mpr ⟨lw_p15, fun _ h => absurd h List.not_mem_nil⟩⟩⟩⟩⟩⟩⟩⟩⟩⟩⟩⟩⟩⟩⟩⟩
theorem lw_p16 : lw_okq (⟨"Parserpark", "layOut", "(I)V"⟩, 8) := ⟨⟨by decide +kernel, by decide +kernel⟩, List.mem_of_getElem? (i := 23) (by decide +kernel), List.mem_of_getElem? (i := 681) (by decide +kernel), List.mem_of_getElem? (i := 682) (by decide +kernel)⟩
theorem lw_p17 : lw_okq (⟨"Parserpark", "faultOf", "(LParserpark$Text;)C"⟩, 8) := ⟨⟨by decide +kernel, by decide +kernel⟩, List.mem_of_getElem? (i := 23) (by decide +kernel), List.mem_of_getElem? (i := 757) (by decide +kernel), List.mem_of_getElem? (i := 758) (by decide +kernel)⟩
theorem lw_p18 : lw_okq (⟨"Parserpark", "countClean", "()I"⟩, 8) := ⟨⟨by decide +kernel, by decide +kernel⟩, List.mem_of_getElem? (i := 23) (by decide +kernel), List.mem_of_getElem? (i := 772) (by decide +kernel), List.mem_of_getElem? (i := 773) (by decide +kernel)⟩
theorem lw_p19 : lw_okq (⟨"Parserpark", "lengthOfAmbiguousRow", "(II)I"⟩, 8) := ⟨⟨by decide +kernel, by decide +kernel⟩, List.mem_of_getElem? (i := 23) (by decide +kernel), List.mem_of_getElem? (i := 783) (by decide +kernel), List.mem_of_getElem? (i := 784) (by decide +kernel)⟩
theorem lw_p20 : lw_okq (⟨"Parserpark", "findAmbiguousRow", "(II)Z"⟩, 8) := ⟨⟨by decide +kernel, by decide +kernel⟩, List.mem_of_getElem? (i := 23) (by decide +kernel), List.mem_of_getElem? (i := 787) (by decide +kernel), List.mem_of_getElem? (i := 788) (by decide +kernel)⟩
theorem lw_p21 : lw_okq (⟨"ParserparkModel", "touched", "(I)I"⟩, 25) := ⟨⟨by decide +kernel, by decide +kernel⟩, List.mem_of_getElem? (i := 840) (by decide +kernel), List.mem_of_getElem? (i := 947) (by decide +kernel), List.mem_of_getElem? (i := 948) (by decide +kernel)⟩
theorem lw_p22 : lw_okq (⟨"ParserparkModel", "isRule", "(I)Z"⟩, 25) := ⟨⟨by decide +kernel, by decide +kernel⟩, List.mem_of_getElem? (i := 840) (by decide +kernel), List.mem_of_getElem? (i := 955) (by decide +kernel), List.mem_of_getElem? (i := 956) (by decide +kernel)⟩
theorem lw_p23 : lw_okq (⟨"ParserparkModel", "isText", "(I)Z"⟩, 25) := ⟨⟨by decide +kernel, by decide +kernel⟩, List.mem_of_getElem? (i := 840) (by decide +kernel), List.mem_of_getElem? (i := 981) (by decide +kernel), List.mem_of_getElem? (i := 982) (by decide +kernel)⟩
theorem lw_p24 : lw_okq (⟨"ParserparkModel", "laysText", "(I)I"⟩, 25) := ⟨⟨by decide +kernel, by decide +kernel⟩, List.mem_of_getElem? (i := 840) (by decide +kernel), List.mem_of_getElem? (i := 985) (by decide +kernel), List.mem_of_getElem? (i := 986) (by decide +kernel)⟩
theorem lw_p25 : lw_okq (⟨"ParserparkModel", "lays", "()V"⟩, 25) := ⟨⟨by decide +kernel, by decide +kernel⟩, List.mem_of_getElem? (i := 840) (by decide +kernel), List.mem_of_getElem? (i := 989) (by decide +kernel), List.mem_of_getElem? (i := 990) (by decide +kernel)⟩
theorem lw_p26 : lw_okq (⟨"ParserparkModel", "ways", "(III)I"⟩, 25) := ⟨⟨by decide +kernel, by decide +kernel⟩, List.mem_of_getElem? (i := 840) (by decide +kernel), List.mem_of_getElem? (i := 993) (by decide +kernel), List.mem_of_getElem? (i := 994) (by decide +kernel)⟩
theorem lw_p27 : lw_okq (⟨"ParserparkModel", "part", "(III)I"⟩, 25) := ⟨⟨by decide +kernel, by decide +kernel⟩, List.mem_of_getElem? (i := 840) (by decide +kernel), List.mem_of_getElem? (i := 997) (by decide +kernel), List.mem_of_getElem? (i := 998) (by decide +kernel)⟩
theorem lw_p28 : lw_okq (⟨"ParserparkModel", "twoParts", "(IIII)I"⟩, 25) := ⟨⟨by decide +kernel, by decide +kernel⟩, List.mem_of_getElem? (i := 840) (by decide +kernel), List.mem_of_getElem? (i := 1001) (by decide +kernel), List.mem_of_getElem? (i := 1002) (by decide +kernel)⟩
theorem lw_p29 : lw_okq (⟨"ParserparkModel", "isPlace", "(II)Z"⟩, 25) := ⟨⟨by decide +kernel, by decide +kernel⟩, List.mem_of_getElem? (i := 840) (by decide +kernel), List.mem_of_getElem? (i := 1012) (by decide +kernel), List.mem_of_getElem? (i := 1013) (by decide +kernel)⟩
theorem lw_p30 : lw_okq (⟨"ParserparkModel", "asks", "(I)Z"⟩, 25) := ⟨⟨by decide +kernel, by decide +kernel⟩, List.mem_of_getElem? (i := 840) (by decide +kernel), List.mem_of_getElem? (i := 1020) (by decide +kernel), List.mem_of_getElem? (i := 1021) (by decide +kernel)⟩
theorem lw_p31 : lw_okq (⟨"ParserparkModel", "walksText", "(I)I"⟩, 25) := ⟨⟨by decide +kernel, by decide +kernel⟩, List.mem_of_getElem? (i := 840) (by decide +kernel), List.mem_of_getElem? (i := 1044) (by decide +kernel), List.mem_of_getElem? (i := 1045) (by decide +kernel)⟩
def lw_privs_2 : List (MethodName × Nat) := [(⟨"Parserpark", "layOut", "(I)V"⟩, 8), (⟨"Parserpark", "faultOf", "(LParserpark$Text;)C"⟩, 8), (⟨"Parserpark", "countClean", "()I"⟩, 8), (⟨"Parserpark", "lengthOfAmbiguousRow", "(II)I"⟩, 8), (⟨"Parserpark", "findAmbiguousRow", "(II)Z"⟩, 8), (⟨"ParserparkModel", "touched", "(I)I"⟩, 25), (⟨"ParserparkModel", "isRule", "(I)Z"⟩, 25), (⟨"ParserparkModel", "isText", "(I)Z"⟩, 25), (⟨"ParserparkModel", "laysText", "(I)I"⟩, 25), (⟨"ParserparkModel", "lays", "()V"⟩, 25), (⟨"ParserparkModel", "ways", "(III)I"⟩, 25), (⟨"ParserparkModel", "part", "(III)I"⟩, 25), (⟨"ParserparkModel", "twoParts", "(IIII)I"⟩, 25), (⟨"ParserparkModel", "isPlace", "(II)Z"⟩, 25), (⟨"ParserparkModel", "asks", "(I)Z"⟩, 25), (⟨"ParserparkModel", "walksText", "(I)I"⟩, 25)]
theorem lw_r2 : ∀ q ∈ lw_privs_2, lw_okq q := List.forall_mem_cons.mpr ⟨lw_p16, List.forall_mem_cons.mpr ⟨lw_p17, List.forall_mem_cons.mpr ⟨lw_p18, List.forall_mem_cons.mpr ⟨lw_p19, List.forall_mem_cons.mpr ⟨lw_p20, List.forall_mem_cons.mpr ⟨lw_p21, List.forall_mem_cons.mpr ⟨lw_p22, List.forall_mem_cons.mpr ⟨lw_p23, List.forall_mem_cons.mpr ⟨lw_p24, List.forall_mem_cons.mpr ⟨lw_p25, List.forall_mem_cons.mpr ⟨lw_p26, List.forall_mem_cons.mpr ⟨lw_p27, List.forall_mem_cons.mpr ⟨lw_p28, List.forall_mem_cons.mpr ⟨lw_p29, List.forall_mem_cons.mpr ⟨lw_p30, List.forall_mem_cons.mpr ⟨lw_p31, fun _ h => absurd h List.not_mem_nil⟩⟩⟩⟩⟩⟩⟩⟩⟩⟩⟩⟩⟩⟩⟩⟩
theorem lw_p32 : lw_okq (⟨"ParserparkModel", "walks", "(IIIII)V"⟩, 25) := ⟨⟨by decide +kernel, by decide +kernel⟩, List.mem_of_getElem? (i := 840) (by decide +kernel), List.mem_of_getElem? (i := 1048) (by decide +kernel), List.mem_of_getElem? (i := 1049) (by decide +kernel)⟩
theorem lw_p33 : lw_okq (⟨"ParserparkModel", "chosen", "(III)I"⟩, 25) := ⟨⟨by decide +kernel, by decide +kernel⟩, List.mem_of_getElem? (i := 840) (by decide +kernel), List.mem_of_getElem? (i := 1052) (by decide +kernel), List.mem_of_getElem? (i := 1053) (by decide +kernel)⟩
theorem lw_p34 : lw_okq (⟨"ParserparkModel", "sees", "(IIIII)V"⟩, 25) := ⟨⟨by decide +kernel, by decide +kernel⟩, List.mem_of_getElem? (i := 840) (by decide +kernel), List.mem_of_getElem? (i := 1056) (by decide +kernel), List.mem_of_getElem? (i := 1057) (by decide +kernel)⟩
theorem lw_p35 : lw_okq (⟨"ParserparkModel", "cut", "(IIII)I"⟩, 25) := ⟨⟨by decide +kernel, by decide +kernel⟩, List.mem_of_getElem? (i := 840) (by decide +kernel), List.mem_of_getElem? (i := 1060) (by decide +kernel), List.mem_of_getElem? (i := 1061) (by decide +kernel)⟩
theorem lw_p36 : lw_okq (⟨"ParserparkModel", "blanks", "(I)V"⟩, 25) := ⟨⟨by decide +kernel, by decide +kernel⟩, List.mem_of_getElem? (i := 840) (by decide +kernel), List.mem_of_getElem? (i := 1064) (by decide +kernel), List.mem_of_getElem? (i := 1065) (by decide +kernel)⟩
theorem lw_p37 : lw_okq (⟨"ParserparkModel", "faultOf", "(I)C"⟩, 25) := ⟨⟨by decide +kernel, by decide +kernel⟩, List.mem_of_getElem? (i := 840) (by decide +kernel), List.mem_of_getElem? (i := 1096) (by decide +kernel), List.mem_of_getElem? (i := 1097) (by decide +kernel)⟩
theorem lw_p38 : lw_okq (⟨"ParserparkModel", "clean", "()I"⟩, 25) := ⟨⟨by decide +kernel, by decide +kernel⟩, List.mem_of_getElem? (i := 840) (by decide +kernel), List.mem_of_getElem? (i := 1104) (by decide +kernel), List.mem_of_getElem? (i := 1105) (by decide +kernel)⟩
theorem lw_p39 : lw_okq (⟨"ParserparkModel", "asksRow", "(II)Z"⟩, 25) := ⟨⟨by decide +kernel, by decide +kernel⟩, List.mem_of_getElem? (i := 840) (by decide +kernel), List.mem_of_getElem? (i := 1112) (by decide +kernel), List.mem_of_getElem? (i := 1113) (by decide +kernel)⟩
theorem lw_p40 : lw_okq (⟨"ParserparkModel", "finds", "(II)Z"⟩, 25) := ⟨⟨by decide +kernel, by decide +kernel⟩, List.mem_of_getElem? (i := 840) (by decide +kernel), List.mem_of_getElem? (i := 1117) (by decide +kernel), List.mem_of_getElem? (i := 1118) (by decide +kernel)⟩
def lw_privs_3 : List (MethodName × Nat) := [(⟨"ParserparkModel", "walks", "(IIIII)V"⟩, 25), (⟨"ParserparkModel", "chosen", "(III)I"⟩, 25), (⟨"ParserparkModel", "sees", "(IIIII)V"⟩, 25), (⟨"ParserparkModel", "cut", "(IIII)I"⟩, 25), (⟨"ParserparkModel", "blanks", "(I)V"⟩, 25), (⟨"ParserparkModel", "faultOf", "(I)C"⟩, 25), (⟨"ParserparkModel", "clean", "()I"⟩, 25), (⟨"ParserparkModel", "asksRow", "(II)Z"⟩, 25), (⟨"ParserparkModel", "finds", "(II)Z"⟩, 25)]
theorem lw_r3 : ∀ q ∈ lw_privs_3, lw_okq q := List.forall_mem_cons.mpr ⟨lw_p32, List.forall_mem_cons.mpr ⟨lw_p33, List.forall_mem_cons.mpr ⟨lw_p34, List.forall_mem_cons.mpr ⟨lw_p35, List.forall_mem_cons.mpr ⟨lw_p36, List.forall_mem_cons.mpr ⟨lw_p37, List.forall_mem_cons.mpr ⟨lw_p38, List.forall_mem_cons.mpr ⟨lw_p39, List.forall_mem_cons.mpr ⟨lw_p40, fun _ h => absurd h List.not_mem_nil⟩⟩⟩⟩⟩⟩⟩⟩⟩
def lw_privs : List (MethodName × Nat) := lw_privs_1 ++ (lw_privs_2 ++ (lw_privs_3))
def lw_tbl : List Cond := k2_sels lw_privs ++ tables_1
theorem lw_privs_ok : ∀ q ∈ lw_privs, lw_okq q := by
  show ∀ q ∈ lw_privs_1 ++ (lw_privs_2 ++ (lw_privs_3)), lw_okq q
  exact List.forall_mem_append.mpr ⟨lw_r1, List.forall_mem_append.mpr ⟨lw_r2, lw_r3⟩⟩
/-- the streams that the claim lets the run draw from -/
abbrev lw_cs : List Choice := [Jvm.Choice.named "NaN.bits"]
theorem lw_bits : nanBits ∈ lw_cs := by first | decide | exact List.mem_cons_self | simp [lw_cs, nanBits]
-- ===== end of PART A; then your names; then what follows =====
/-! ===== BEGIN words of one list among another's, by their places ===== -/
theorem goodIn_r {big : List Cond} (ws : List Cond) (ps : List Nat) (hp : ws = ps.filterMap (fun i => big[i]?)) (h : ws.all goodWord = true) : GoodIn big ws := by
  intro w hw
  have h1 := List.all_eq_true.mp h w hw
  rw [hp] at hw
  obtain ⟨i, -, hi⟩ := List.mem_filterMap.mp hw
  have hm : w ∈ big := by first | exact List.mem_of_getElem? hi | exact List.getElem?_mem hi
  exact ⟨hm, good_of_word h1⟩
theorem goodIn_app {big a b : List Cond} (ha : GoodIn big a) (hb : GoodIn big b) : GoodIn big (a ++ b) := fun w h => (List.mem_append.mp h).elim (ha w) (hb w)
theorem goodIn_ca {big a b : List Cond} {c : Cond} (ha : GoodIn big (c :: a)) (hb : GoodIn big b) : GoodIn big (c :: (a ++ b)) := fun w h => (List.mem_cons.mp h).elim (fun e => ha w (List.mem_cons.mpr (Or.inl e))) (fun h => (List.mem_append.mp h).elim (fun h => ha w (List.mem_cons.mpr (Or.inr h))) (hb w))
theorem goodIn_sub {big ws : List Cond} (hm : ∀ w ∈ ws, w ∈ big) (h : ws.all goodWord = true) : GoodIn big ws := fun w hw => ⟨hm w hw, good_of_word (List.all_eq_true.mp h w hw)⟩
/-! ===== END ===== -/

/-! ===== BEGIN exceptions that leave a method, and their catching by the caller (launches without stack traces) ===== -/
section VXA
/-! The laws vx_back, vx_callV, vx_callS, vx_callSW, vx_throw0, vx_throwS follow proofs of the library, with one case more: JvmDerived/Free/Laws.lean (Back.of_free), Shelf42/LK1.lean (callV, callS), Shelf/KitTraced.lean (throwNew0V, throwNewS). -/
/-- where a method has thrown q: the class by its name, the cell, what was written, the world -/
def vx_T (XC : String → State → State → Prop) (st : State) (q : Addr) (t : State) (mc ms : Nat) (free : Addr → Prop) : Prop :=
  ∃ (E : String) (ce : Cell) (L : List Loc), XC E st t ∧ t.heap[q]? = some ce ∧ ce.vm = .none ∧ st.vm.findClass E = some ce.cls ∧ st.WarmedH t.vm ∧ st.sameButNew ({ t with vm := st.vm } : State) L mc ms ∧ ∀ z ∈ L, free z.base
def vx_Q (Qc : Array Value → State → Outcome → State → Prop) (XC : String → State → State → Prop) (mc ms : Nat) (free : Addr → Prop) : Array Value → State → Outcome → State → Prop := fun a st o t =>
  (Qc a st o t ∧ ∃ L, FrameEnd st o t L mc ms ∧ ∀ q ∈ L, free q.base) ∨ ∃ q, o = .threw q ∧ vx_T XC st q t mc ms free
/-- a callee that returns or throws -/
def vx_Met (l : Launch) (y : MethodName) (ws : List Cond) (rm : Room) (Pc : Array Value → State → Prop) (Qc : Array Value → State → Outcome → State → Prop) (XC : String → State → State → Prop) (mc ms : Nat) (free : Addr → Prop) : Prop :=
  MetFree l y (headSpec ws rm) Pc (fun _ _ _ _ _ => True) (vx_Q Qc XC mc ms free)
def vx_Post (XC : String → State → State → Prop) (mc ms : Nat) (free : Addr → Prop) : Pt → Array Value → Addr → Pt → Prop := fun A a q B =>
  ∃ (g : JFrame) (mk : MethodId) (t : State) (L : List Loc) (E : String) (ce : Cell), B.U.heap = t.heap ∧ B.U.vm = t.vm ∧ XC E (A.U.calling g mk a) t ∧ t.heap[q]? = some ce ∧ ce.vm = .none ∧ A.U.vm.findClass E = some ce.cls ∧ B.locs = A.locs ++ L ∧ (∀ z ∈ L, free z.base) ∧ B.cells = A.cells + mc ∧ B.slots = A.slots + ms
def vx_Back (l : Launch) (R : Room) (p : Program) (e : Env) (below : List Frame) (s : State) (sargs : Array Value) (y : MethodName) (len W9 : Nat)
    (Pre : Pt → Array Value → Prop) (Post : Pt → Array Value → Option Value → Pt → Prop) (PostX : Pt → Array Value → Addr → Pt → Prop) : Prop :=
  ∀ (m : MethodId) (meth : Method) (c : Code) (A : Pt) (g : JFrame) (ig : Instr) (mk : MethodId) (a : Array Value),
    Stand p l e R s m sargs below meth c A.U A.locs A.cells A.slots → g.method = m → g.locals.size = c.maxLocals → decode c.code g.pc = .ok (ig, len) →
    2 * g.monitorRoom + (g.stack.map fun v => v.category).sum ≤ W9 → A.U.methodNamed? y = some mk → Pre A a →
    (∃ (v : Option Value) (B : Pt), Stand p l e R s m sargs below meth c B.U B.locs B.cells B.slots ∧ Post A a v B ∧
      Steps p.tables e below (doInvoke e (A.U.setTop g) [] mk a).1 (B.U.setTop { g with pc := g.pc + len, stack := v.toList ++ g.stack })) ∨
    (∃ (q : Addr) (B : Pt), Stand p l e R s m sargs below meth c B.U B.locs B.cells B.slots ∧ PostX A a q B ∧
      Steps p.tables e below (doInvoke e (A.U.setTop g) [] mk a).1 ((B.U.setTop g).pushFrame (.throwing q)))
section Payer
variable {l : Launch} {R : Room} {p : Program} {e : Env} {below : List Frame} {s : State} {sargs : Array Value} {y : MethodName} {len W9 : Nat}
theorem vx_back {ws : List Cond} {rm : Room} {Pc : Array Value → State → Prop} {Qc : Array Value → State → Outcome → State → Prop} {XC : String → State → State → Prop} {mc ms : Nat} {free : Addr → Prop} {bytes : ByteArray} {maxL : Nat} {ret : Option FieldType}
    (hM : vx_Met l y ws rm Pc Qc XC mc ms free) (hblind : FrameBlind Pc) (hrc : rm.cells = mc) (hrs : rm.slots = ms)
    (hframes : rm.frames + 1 ≤ R.frames) (hlocals : W9 + (maxL + 11) + rm.locals ≤ R.locals)
    (hws : ∀ w ∈ ws, ∀ a' U, s.WarmedH U.vm → w.before a' U = true) (hcode : Cond.code y bytes maxL ret ∈ ws) (hinit : ∀ a' U, s.WarmedH U.vm → (Cond.initialized y.cls).before a' U = true) :
    vx_Back l R p e below s sargs y len W9 (PreOf R mc ms Pc) (PostOf Qc mc ms free) (vx_Post XC mc ms free) := by
  intro m meth c A g ig mk a X hg hsize hdg hW hn hp
  have h1 : (headSpec ws rm).pre.before a A.U = true := atoms_intro fun w hw => hws w hw _ _ X.warmed
  have h2 : (Cond.code y bytes maxL ret).before a A.U = true := hws _ hcode _ _ X.warmed
  have h3 : (Cond.initialized y.cls).before a A.U = true := hinit _ _ X.warmed
  have h4 : A.cells + (headSpec ws rm).room.cells ≤ R.cells := by rw [show (headSpec ws rm).room.cells = mc from hrc]; exact hp.1
  have h5 : A.slots + (headSpec ws rm).room.slots ≤ R.slots := by rw [show (headSpec ws rm).room.slots = ms from hrs]; exact hp.2.1
  have hPc : Pc a (A.U.calling g mk a) := hblind _ _ _ _ hp.2.2
  obtain ⟨U, Ls, c0, s0⟩ := A
  dsimp only [Pt.U, Pt.locs, Pt.cells, Pt.slots] at h1 h2 h3 h4 h5 X hn hPc ⊢
  obtain ⟨methY, cY, hmY, hcY, -, hlY, -, -, -, -⟩ := Cond.code_spec hn h2
  obtain ⟨kY, hkY, -⟩ := className_of_methodNamed hn
  have hinitY : kY.init = .initialized := Cond.initialized_spec (findClass_of_methodNamed hn) hkY h3
  have h : At U g.method c below := by rw [hg]; exact X.here
  have hlocals9 : W9 + (maxL + 11) + (headSpec ws rm).room.locals ≤ R.locals := hlocals
  have happ : (headSpec ws rm).appliesLoose y e.platform (U.calling g mk a) = true :=
    Spec.appliesLoose_calling (g := g) h hdg hn hkY hinitY
      (X.room_calling (g := g) (R' := (headSpec ws rm).room) hsize hmY hcY hframes (by rw [hlY]; omega) h4 h5) h1
  obtain ⟨mid, hmid⟩ := h.above
  have hfr : (U.setTop g).frames = (.java g :: mid) ++ below := by rw [State.frames_setTop' g h.top, hmid]; rfl
  obtain ⟨o, s₂, hsteps, -, hend, hq⟩ := Steps.callFree hM p X.admits X.cas X.clock (acts := []) hfr happ hPc trivial
  have hq' : vx_Q Qc XC mc ms free a (U.calling g mk a) o s₂ := hq
  rw [State.frames_setTop' g h.top] at hend
  obtain ⟨g₀, hg0⟩ := Option.isSome_iff_exists.mp h.top
  obtain ⟨r, hr⟩ := State.topJava?_eq_some.mp hg0
  have hr' : (({ U with heap := s₂.heap, slotsUsed := s₂.slotsUsed } : State).setVm s₂.vm).frames = .java g₀ :: r := hr
  rcases hq' with ⟨hqc, L, hfe, hL⟩ | ⟨q, rfl, E, ce, L, hx, hce, hcv, hcl, hW₂, hsm, hL⟩
  · obtain ⟨⟨v, rfl⟩, hW₂, e2, q2, q3, q4, q5, q6⟩ := id hfe
    have e3 : s₂ = ({ (U.calling g mk a).setFrames s₂.frames with heap := s₂.heap, slotsUsed := s₂.slotsUsed } : State).setVm s₂.vm := by
      have : s₂ = ({ s₂ with vm := (U.calling g mk a).vm } : State).setVm s₂.vm := rfl
      rw [e2] at this
      exact this
    obtain ⟨c₂, i₂, len₂, hc₂, hd₂, hf₂⟩ := hend
    have hW' : U.WarmedH s₂.vm := hW₂
    have hcc : c₂ = c := by
      have h1 : s₂.code? g.method = U.code? g.method := by
        rw [State.code?_eq, State.code?_eq, hW'.alike.method?]
      exact Option.some.inj (hc₂.symm.trans (h1.trans h.code))
    subst hcc
    have hlen : len₂ = len := by rw [hdg] at hd₂; cases hd₂; rfl
    subst hlen
    have hs₂ : s₂ = (({ U with heap := s₂.heap, slotsUsed := s₂.slotsUsed } : State).setVm s₂.vm).setTop { g with pc := g.pc + len₂, stack := v.toList ++ g.stack } := by
      refine e3.trans ?_
      rw [hf₂, State.calling_eq h.top, State.setFrames_setFrames, State.setTop_of_frames _ hr', hr]
      rfl
    have hsame : U.sameButNew ({ U with heap := s₂.heap, slotsUsed := s₂.slotsUsed } : State) L mc ms := by
      refine ⟨?_, q2, q3, q4, q5, q6⟩
      obtain ⟨t, ht, -⟩ := State.frames_cons hr
      show ({ U with heap := s₂.heap, slotsUsed := s₂.slotsUsed } : State) = { U.setFrames U.frames with heap := s₂.heap, slotsUsed := s₂.slotsUsed }
      rw [State.setFrames_self ht]
    subst hg
    refine Or.inl ⟨v, ⟨(({ U with heap := s₂.heap, slotsUsed := s₂.slotsUsed } : State).setVm s₂.vm), Ls ++ L, c0 + mc, s0 + ms⟩,
      ⟨X.admits, X.cas, X.clock, X.frames, X.room, X.hears, X.method, X.code, (X.here.setHeapUsed s₂.heap s₂.slotsUsed).setVm hW'.alike, X.tail, State.WarmedH.trans X.warmed hW', X.limits, X.bytes, X.same.trans (hsame.setVm s.vm)⟩,
      ⟨g, mk, s₂, L, rfl, rfl, hqc, rfl, hL, rfl, rfl⟩, ?_⟩
    show Steps p.tables e below _ ((({ U with heap := s₂.heap, slotsUsed := s₂.slotsUsed } : State).setVm s₂.vm).setTop { g with pc := g.pc + len₂, stack := v.toList ++ g.stack })
    rw [← hs₂]
    exact hsteps
  · obtain ⟨e2, q2, q3, q4, q5, q6⟩ := id hsm
    have e3 : s₂ = ({ (U.calling g mk a).setFrames s₂.frames with heap := s₂.heap, slotsUsed := s₂.slotsUsed } : State).setVm s₂.vm := by
      have : s₂ = ({ s₂ with vm := (U.calling g mk a).vm } : State).setVm s₂.vm := rfl
      rw [e2] at this
      exact this
    have hf₂ : s₂.frames = .throwing q :: .java g :: U.frames.tail := hend
    have hW' : U.WarmedH s₂.vm := hW₂
    have hs₂ : s₂ = ((({ U with heap := s₂.heap, slotsUsed := s₂.slotsUsed } : State).setVm s₂.vm).setTop g).pushFrame (.throwing q) := by
      refine e3.trans ?_
      rw [hf₂, State.calling_eq h.top, State.setFrames_setFrames, State.pushFrame, State.frames_setTop _ hr', State.setTop_of_frames _ hr', State.setFrames_setFrames, hr]
      rfl
    have hsame : U.sameButNew ({ U with heap := s₂.heap, slotsUsed := s₂.slotsUsed } : State) L mc ms := by
      refine ⟨?_, q2, q3, q4, q5, q6⟩
      obtain ⟨t, ht, -⟩ := State.frames_cons hr
      show ({ U with heap := s₂.heap, slotsUsed := s₂.slotsUsed } : State) = { U.setFrames U.frames with heap := s₂.heap, slotsUsed := s₂.slotsUsed }
      rw [State.setFrames_self ht]
    subst hg
    refine Or.inr ⟨q, ⟨(({ U with heap := s₂.heap, slotsUsed := s₂.slotsUsed } : State).setVm s₂.vm), Ls ++ L, c0 + mc, s0 + ms⟩,
      ⟨X.admits, X.cas, X.clock, X.frames, X.room, X.hears, X.method, X.code, (X.here.setHeapUsed s₂.heap s₂.slotsUsed).setVm hW'.alike, X.tail, State.WarmedH.trans X.warmed hW', X.limits, X.bytes, X.same.trans (hsame.setVm s.vm)⟩,
      ⟨g, mk, s₂, L, E, ce, rfl, rfl, hx, hce, hcv, hcl, rfl, hL, rfl, rfl⟩, ?_⟩
    show Steps p.tables e below _ (((({ U with heap := s₂.heap, slotsUsed := s₂.slotsUsed } : State).setVm s₂.vm).setTop g).pushFrame (.throwing q))
    rw [← hs₂]
    exact hsteps
end Payer
section Calls
variable {p : Program} {l : Launch} {e : Env} {R : Room} {s : State} {m : MethodId} {args : Array Value} {below : List Frame} {meth : Method} {c : Code} {T : State} {locs : List Loc} {cells slots : Nat}
theorem vx_callV (X : Stand p l e R s m args below meth c T locs cells slots) (hexec : p.tables.exec = Jvm.exec) {own C : String} {index : Nat} {y : MethodName} {bytes : ByteArray} {maxL : Nat} {ret : Option FieldType}
    (hown : s.vm.findClass own = some m.cls) (hlink : (Cond.methodLink own index y).before args s = true) (hinst : (Cond.instanceMethod y).before args s = true) (hsel : (Cond.selects C y y).before args s = true)
    (hcode : (Cond.code y bytes maxL ret).before args s = true) (hy : y.cls ≠ "java/lang/invoke/MethodHandle" ∧ y.cls ≠ "java/lang/invoke/VarHandle")
    {W9 : Nat} {Pre : Pt → Array Value → Prop} {Post : Pt → Array Value → Option Value → Pt → Prop} {PostX : Pt → Array Value → Addr → Pt → Prop} (hK : vx_Back l R p e below s args y 3 W9 Pre Post PostX)
    {b : Addr} {cellB : Cell} (hcell : T.heap[b]? = some cellB) (hobj : cellB.vm.isStatics = false) (hcls : s.vm.findClass C = some cellB.cls)
    {g : JFrame} (hg : g.method = m) (hsize : g.locals.size = c.maxLocals) {argsL rest : List Value} (hlen : ∀ sig, parseMethodDescriptor y.desc = some sig → argsL.length = sig.parameters.length)
    (hstack : g.stack = argsL.reverse ++ .ref b :: rest) (hW : 2 * g.monitorRoom + (rest.map fun v => v.category).sum ≤ W9) (hdg : decode c.code g.pc = .ok (.invokevirtual index, 3))
    (hpre : ∀ vm₁, s.WarmedH vm₁ → Pre ⟨T.setVm vm₁, locs, cells, slots⟩ (Value.ref b :: argsL).toArray) :
    (∃ (v : Option Value) (vm₁ : Vm) (B : Pt), s.WarmedH vm₁ ∧ Stand p l e R s m args below meth c B.U B.locs B.cells B.slots ∧ Post ⟨T.setVm vm₁, locs, cells, slots⟩ (Value.ref b :: argsL).toArray v B ∧
      ∀ target, Steps p.tables e below (B.U.setTop { g with pc := g.pc + 3, stack := v.toList ++ rest }) target → Steps p.tables e below (T.setTop g) target) ∨
    (∃ (q : Addr) (vm₁ : Vm) (B : Pt), s.WarmedH vm₁ ∧ Stand p l e R s m args below meth c B.U B.locs B.cells B.slots ∧ PostX ⟨T.setVm vm₁, locs, cells, slots⟩ (Value.ref b :: argsL).toArray q B ∧
      Steps p.tables e below (T.setTop g) ((B.U.setTop { g with stack := rest }).pushFrame (.throwing q))) := by
  obtain ⟨mk, methM, hnamed, hmethM, hstM, habM⟩ := Cond.instanceMethod_spec hinst
  obtain ⟨methM', cM, hmethM', -, -, -, -, -, -, hsigM⟩ := Cond.code_spec hnamed hcode
  cases hmethM.symm.trans hmethM'
  obtain ⟨c2, r2, m2, q1, q2, q3, q4, kP, hkP, hkPi⟩ := Cond.selects_spec hsel
  cases hcls.symm.trans q1
  cases (State.methodFound?_of_named hnamed hy).symm.trans q2
  cases hnamed.symm.trans q3
  have hselP : selectMethod e.platform s.vm cellB.cls mk = .method mk := by rw [Launch.admits_selectMethod X.admits]; exact q4
  obtain ⟨vm₁, X₁, hstep₁⟩ := X.invokevirtual hexec hown hlink hnamed hmethM hstM hkP hkPi hy (a := b) (cell := cellB) hcell
    (fun z h => by rw [h] at hobj; cases hobj) hselP hmethM habM hkP hkPi (g := g) hg (argsL := argsL) (rest := rest) (hlen _ hsigM) hstack hdg
  rcases hK m meth c ⟨T.setVm vm₁, locs, cells, slots⟩ { g with stack := rest } (.invokevirtual index) mk (Value.ref b :: argsL).toArray X₁ hg hsize hdg hW (X₁.named hnamed) (hpre vm₁ X₁.warmed) with ⟨v, B, X', hpost, hsteps⟩ | ⟨q, B, X', hpost, hsteps⟩
  · exact Or.inl ⟨v, vm₁, B, X₁.warmed, X', hpost, fun target h => hstep₁ _ fun acts => by rw [doInvoke_state]; exact hsteps.trans h⟩
  · exact Or.inr ⟨q, vm₁, B, X₁.warmed, X', hpost, hstep₁ _ fun acts => by rw [doInvoke_state]; exact hsteps⟩
theorem vx_callS (X : Stand p l e R s m args below meth c T locs cells slots) (hexec : p.tables.exec = Jvm.exec) {own : String} {index : Nat} {y : MethodName} {bytes : ByteArray} {maxL : Nat} {ret : Option FieldType}
    (hown : s.vm.findClass own = some m.cls) (hlink : (Cond.methodLink own index y).before args s = true) (hstat : (Cond.static y).before args s = true) (hinit : (Cond.initialized y.cls).before args s = true)
    (hcode : (Cond.code y bytes maxL ret).before args s = true) (hy : y.cls ≠ "java/lang/invoke/MethodHandle" ∧ y.cls ≠ "java/lang/invoke/VarHandle")
    {W9 : Nat} {Pre : Pt → Array Value → Prop} {Post : Pt → Array Value → Option Value → Pt → Prop} {PostX : Pt → Array Value → Addr → Pt → Prop} (hK : vx_Back l R p e below s args y 3 W9 Pre Post PostX)
    {g : JFrame} (hg : g.method = m) (hsize : g.locals.size = c.maxLocals) {argsL rest : List Value} (hlen : ∀ sig, parseMethodDescriptor y.desc = some sig → argsL.length = sig.parameters.length)
    (hstack : g.stack = argsL.reverse ++ rest) (hW : 2 * g.monitorRoom + (rest.map fun v => v.category).sum ≤ W9) (hdg : decode c.code g.pc = .ok (.invokestatic index, 3))
    (hpre : ∀ vm₁, s.WarmedH vm₁ → Pre ⟨T.setVm vm₁, locs, cells, slots⟩ argsL.toArray) :
    (∃ (v : Option Value) (vm₁ : Vm) (B : Pt), s.WarmedH vm₁ ∧ Stand p l e R s m args below meth c B.U B.locs B.cells B.slots ∧ Post ⟨T.setVm vm₁, locs, cells, slots⟩ argsL.toArray v B ∧
      ∀ target, Steps p.tables e below (B.U.setTop { g with pc := g.pc + 3, stack := v.toList ++ rest }) target → Steps p.tables e below (T.setTop g) target) ∨
    (∃ (q : Addr) (vm₁ : Vm) (B : Pt), s.WarmedH vm₁ ∧ Stand p l e R s m args below meth c B.U B.locs B.cells B.slots ∧ PostX ⟨T.setVm vm₁, locs, cells, slots⟩ argsL.toArray q B ∧
      Steps p.tables e below (T.setTop g) ((B.U.setTop { g with stack := rest }).pushFrame (.throwing q))) := by
  obtain ⟨mk, hnamed⟩ := Cond.code_named hcode
  obtain ⟨methM, cM, hmethM, -, -, -, -, -, -, hsigM⟩ := Cond.code_spec hnamed hcode
  have hstatic : methM.isStatic = true := Cond.static_spec hnamed hmethM hstat
  obtain ⟨kP, hkP, -⟩ := className_of_methodNamed hnamed
  have hinitP : kP.init = .initialized := Cond.initialized_spec (findClass_of_methodNamed hnamed) hkP hinit
  obtain ⟨vm₁, X₁, hstep₁⟩ := X.invokestatic hexec hown hlink hnamed hmethM hstatic hkP hinitP hy (g := g) hg (argsL := argsL) (rest := rest) (hlen _ hsigM) hstack hdg
  rcases hK m meth c ⟨T.setVm vm₁, locs, cells, slots⟩ { g with stack := rest } (.invokestatic index) mk argsL.toArray X₁ hg hsize hdg hW (X₁.named hnamed) (hpre vm₁ X₁.warmed) with ⟨v, B, X', hpost, hsteps⟩ | ⟨q, B, X', hpost, hsteps⟩
  · exact Or.inl ⟨v, vm₁, B, X₁.warmed, X', hpost, fun target h => hstep₁ _ fun acts => by rw [doInvoke_state]; exact hsteps.trans h⟩
  · exact Or.inr ⟨q, vm₁, B, X₁.warmed, X', hpost, hstep₁ _ fun acts => by rw [doInvoke_state]; exact hsteps⟩
end Calls
theorem vx_cls {s : State} {T : State} {vm₁ : Vm} {E : String} {k : ClassId} (hW : s.WarmedH vm₁) (h : (T.setVm vm₁).vm.findClass E = some k) : s.vm.findClass E = some k := by
  have h1 : vm₁.findClass E = some k := h
  rw [hW.alike.findClass] at h1
  exact h1
/-- the method's frame g, with q thrown over it -/
def vx_W (p : Program) (l : Launch) (e : Env) (R : Room) (s : State) (m : MethodId) (args : Array Value) (below : List Frame) (meth : Method) (c : Code) (H : Heap) (locs : List Loc) (cells slots : Nat) (Q : State → Prop) (g : JFrame) (q : Addr) : Prop :=
  ∀ T : State, T.heap = H → Stand p l e R s m args below meth c T locs cells slots → ∃ t, Steps p.tables e below ((T.setTop g).pushFrame (.throwing q)) t ∧ Q t
def vx_Run (p : Program) (l : Launch) (e : Env) (R : Room) (s : State) (m : MethodId) (args : Array Value) (below : List Frame) (meth : Method) (c : Code) (H : Heap) (locs : List Loc) (cells slots mc ms : Nat) (g : JFrame) (rest : List Value) (Qa : State → Outcome → State → Prop) (XC : String → State → State → Prop) (free : Addr → Prop) : Prop :=
  ∀ T : State, T.heap = H → Stand p l e R s m args below meth c T locs cells slots →
    (∃ (v : Option Value) (st₀ t T' : State) (L : List Loc), st₀.heap = H ∧ Stand p l e R s m args below meth c T' (locs ++ L) (cells + mc) (slots + ms) ∧ (∀ q ∈ L, free q.base) ∧ T'.heap = t.heap ∧ T'.vm = t.vm ∧ Qa st₀ (.returned v) t ∧
      Goes p e below T g T' { g with pc := g.pc + 3, stack := v.toList ++ rest }) ∨
    (∃ (q : Addr) (st₀ t T' : State) (L : List Loc) (E : String) (ce : Cell), st₀.heap = H ∧ Stand p l e R s m args below meth c T' (locs ++ L) (cells + mc) (slots + ms) ∧ (∀ z ∈ L, free z.base) ∧ T'.heap = t.heap ∧ T'.vm = t.vm ∧ XC E st₀ t ∧ t.heap[q]? = some ce ∧ ce.vm = .none ∧ s.vm.findClass E = some ce.cls ∧
      Steps p.tables e below (T.setTop g) ((T'.setTop { g with stack := rest }).pushFrame (.throwing q)))
def vx_X {S : Type} (px : S → Prop) (B : String → S → State → Prop) (A : Nat → Prop) : String → State → State → Prop := fun E st t => ∃ u : S, px u ∧ B E u t ∧ va_F A st t
section Runs
variable {p : Program} {l : Launch} {e : Env} {R : Room} {s : State} {m : MethodId} {args : Array Value} {below : List Frame} {meth : Method} {c : Code} {H : Heap} {locs : List Loc} {cells slots : Nat}
variable {y : MethodName} {bytes cc : ByteArray} {maxL nL mc ms n index : Nat} {ret : Option FieldType} {ws : List Cond} {rm : Room} {Pc : Array Value → State → Prop} {Qc : Array Value → State → Outcome → State → Prop} {XC : String → State → State → Prop} {free : Addr → Prop} {Ts : List Cond} {own C : String} {b : Addr} {As rest : List Value} {g : JFrame}
theorem vx_callBack (cb : CallB R s args own index y bytes maxL ret ws rm mc ms n) (hM : vx_Met l y ws rm Pc Qc XC mc ms free) (hbl : FrameBlind Pc) : vx_Back l R p e below s args y 3 8 (PreOf R mc ms Pc) (PostOf Qc mc ms free) (vx_Post XC mc ms free) := by
  obtain ⟨hrc, hrs, hfr, hlo, hws, hcw, -, hini, -⟩ := cb
  exact vx_back (bytes := bytes) (maxL := maxL) (ret := ret) hM hbl hrc hrs hfr hlo hws hcw (fun a' U hW => word_at hW (Or.inl (by first | rfl | simp [Cond.onTables, Cond.keeps, Cond.steady])) hini)
theorem vx_runV (S : CallFix p m c cc nL s args Ts own) (hM : vx_Met l y ws rm Pc Qc XC mc ms free) (cw : CallW R s args own C index y bytes maxL ret ws rm mc ms n) (hp : PreV s H C b Pc As)
    (hg : g.method = m) (hn : As.length = n) (hsize : g.locals.size = nL) (hstack : g.stack = As.reverse ++ .ref b :: rest) (hW : 2 * g.monitorRoom + (rest.map fun v => v.category).sum ≤ 8) (hdg : decode cc g.pc = .ok (.invokevirtual index, 3)) (hf : cells + mc ≤ R.cells ∧ slots + ms ≤ R.slots) :
    vx_Run p l e R s m args below meth c H locs cells slots mc ms g rest (Qc (Value.ref b :: As).toArray) XC free := by
  have hK : vx_Back l R p e below s args y 3 8 (PreOf R mc ms Pc) (PostOf Qc mc ms free) (vx_Post XC mc ms free) := vx_callBack cw.1 hM hp.1
  obtain ⟨⟨-, -, -, -, -, -, hcode, -, hy, hlen, hl⟩, hin, hse⟩ := cw
  obtain ⟨hx, hb, hml, ho, -⟩ := S
  obtain ⟨-, ⟨cellB, hcB, hoB, hclB⟩, hPc⟩ := hp
  intro T hT X
  rcases vx_callV X hx (C := C) (bytes := bytes) (maxL := maxL) (ret := ret) ho hl hin hse hcode hy hK (by rw [hT]; exact hcB) hoB hclB hg (hsize.trans hml.symm) (argsL := As) (rest := rest) (fun sig h => hn.trans (hlen sig h)) hstack hW (by rw [hb]; exact hdg)
    (fun vm₁ hW₁ => ⟨hf.1, hf.2, hPc (T.setVm vm₁) hT hW₁⟩) with ⟨v, vm₁, ⟨U', l2, c2, s2⟩, hW₁, X', ⟨g', mk, t, L, e1, e2, hq, h1, hL, h2, h3⟩, st⟩ | ⟨q, vm₁, ⟨U', l2, c2, s2⟩, hW₁, X', ⟨g', mk, t, L, E, ce, e1, e2, hq, hce, hcv, hcl, h1, hL, h2, h3⟩, st⟩
  · dsimp only [Pt.U, Pt.locs, Pt.cells, Pt.slots] at X' e1 e2 h1 h2 h3 st
    subst h1; subst h2; subst h3
    exact Or.inl ⟨v, (T.setVm vm₁).calling g' mk (Value.ref b :: As).toArray, t, U', L, hT, X', hL, e1, e2, hq, st⟩
  · dsimp only [Pt.U, Pt.locs, Pt.cells, Pt.slots] at X' e1 e2 h1 h2 h3 st hcl
    subst h1; subst h2; subst h3
    exact Or.inr ⟨q, (T.setVm vm₁).calling g' mk (Value.ref b :: As).toArray, t, U', L, E, ce, hT, X', hL, e1, e2, hq, hce, hcv, vx_cls hW₁ hcl, st⟩
theorem vx_runS (S : CallFix p m c cc nL s args Ts own) (hM : vx_Met l y ws rm Pc Qc XC mc ms free) (cw : CallB R s args own index y bytes maxL ret ws rm mc ms n ∧ (Cond.static y).before args s = true) (hp : PreS s H Pc As)
    (hg : g.method = m) (hn : As.length = n) (hsize : g.locals.size = nL) (hstack : g.stack = As.reverse ++ rest) (hW : 2 * g.monitorRoom + (rest.map fun v => v.category).sum ≤ 8) (hdg : decode cc g.pc = .ok (.invokestatic index, 3)) (hf : cells + mc ≤ R.cells ∧ slots + ms ≤ R.slots) :
    vx_Run p l e R s m args below meth c H locs cells slots mc ms g rest (Qc As.toArray) XC free := by
  have hK : vx_Back l R p e below s args y 3 8 (PreOf R mc ms Pc) (PostOf Qc mc ms free) (vx_Post XC mc ms free) := vx_callBack cw.1 hM hp.1
  obtain ⟨⟨-, -, -, -, -, -, hcode, hini, hy, hlen, hl⟩, hstt⟩ := cw
  obtain ⟨hx, hb, hml, ho, -⟩ := S
  intro T hT X
  rcases vx_callS X hx (bytes := bytes) (maxL := maxL) (ret := ret) ho hl hstt hini hcode hy hK hg (hsize.trans hml.symm) (argsL := As) (rest := rest) (fun sig h => hn.trans (hlen sig h)) hstack hW (by rw [hb]; exact hdg)
    (fun vm₁ hW₁ => ⟨hf.1, hf.2, hp.2 (T.setVm vm₁) hT hW₁⟩) with ⟨v, vm₁, ⟨U', l2, c2, s2⟩, hW₁, X', ⟨g', mk, t, L, e1, e2, hq, h1, hL, h2, h3⟩, st⟩ | ⟨q, vm₁, ⟨U', l2, c2, s2⟩, hW₁, X', ⟨g', mk, t, L, E, ce, e1, e2, hq, hce, hcv, hcl, h1, hL, h2, h3⟩, st⟩
  · dsimp only [Pt.U, Pt.locs, Pt.cells, Pt.slots] at X' e1 e2 h1 h2 h3 st
    subst h1; subst h2; subst h3
    exact Or.inl ⟨v, (T.setVm vm₁).calling g' mk As.toArray, t, U', L, hT, X', hL, e1, e2, hq, st⟩
  · dsimp only [Pt.U, Pt.locs, Pt.cells, Pt.slots] at X' e1 e2 h1 h2 h3 st hcl
    subst h1; subst h2; subst h3
    exact Or.inr ⟨q, (T.setVm vm₁).calling g' mk As.toArray, t, U', L, E, ce, hT, X', hL, e1, e2, hq, hce, hcv, vx_cls hW₁ hcl, st⟩
end Runs
section Rows
variable {p : Program} {l : Launch} {e : Env} {R : Room} {s : State} {m : MethodId} {args : Array Value} {below : List Frame} {meth : Method} {c : Code} {H : Heap} {locs : List Loc} {cells slots : Nat} {Q : State → Prop}
variable {mc ms : Nat} {free : Addr → Prop} {A0 A1 : Nat → Prop} {H0 : Heap} {a : Array Value} {pc : Nat} {ls : Array Slot} {st0 rest : List Value}
theorem vx_keep {st₀ t T' : State} {L : List Loc} (h0 : st₀.heap = H) (e1 : T'.heap = t.heap) (hS : va_S A0 H0 H locs) (hA : ∀ q, q < H.size → A1 q → A0 q) (hf : ∀ q, free q → A0 q) (hL : ∀ q ∈ L, free q.base) (hF : va_F A1 st₀ t) :
    H.size ≤ T'.heap.size ∧ (∀ q : Nat, q < H.size → ¬ A1 q → T'.heap[q]? = H[q]?) ∧ va_S A0 H0 T'.heap (locs ++ L) := by
  obtain ⟨hz, hk⟩ := hF
  rw [h0] at hz hk
  exact ⟨by rw [e1]; exact hz, fun q h1 h2 => by rw [e1]; exact hk q h1 h2,
    ⟨Nat.le_trans hS.1 (by rw [e1]; exact hz), fun q h1 h2 => by rw [e1, hk q (Nat.lt_of_lt_of_le h1 hS.1) (fun z => h2 (hA q (Nat.lt_of_lt_of_le h1 hS.1) z))]; exact hS.2.1 q h1 h2, fun q hq => by
      rcases List.mem_append.mp hq with h | h
      · exact hS.2.2 q h
      · exact hf _ (hL q h)⟩⟩
theorem vx_calli {S SX : Type} {post : Int32 → S → Prop} {px : SX → Prop} {B : S → State → Prop} {BX : String → SX → State → Prop} {AX : Nat → Prop} (hr : vx_Run p l e R s m args below meth c H locs cells slots mc ms (F0 m pc ls st0) rest (va_Qi post B A1 a) (vx_X px BX AX) free) (hS : va_S A0 H0 H locs) (hA : ∀ q, q < H.size → A1 q → A0 q) (hf : ∀ q, free q → A0 q) (hAX : ∀ q, q < H.size → AX q → A0 q)
    (kx : ∀ (E : String) (ce : Cell) (q9 : Addr) (u : SX) (t : State) (H1 : Heap) (locs1 : List Loc), t.heap = H1 → s.vm.Alike t.vm → px u → BX E u t → H.size ≤ H1.size → (∀ q : Nat, q < H.size → ¬ AX q → H1[q]? = H[q]?) → va_S A0 H0 H1 locs1 → H1[q9]? = some ce → ce.vm = .none → s.vm.findClass E = some ce.cls → vx_W p l e R s m args below meth c H1 locs1 (cells + mc) (slots + ms) Q (F0 m pc ls rest) q9)
    (kk : ∀ (r : Int32) (u : S) (t : State) (H1 : Heap) (locs1 : List Loc), t.heap = H1 → s.vm.Alike t.vm → post r u → B u t → H.size ≤ H1.size → (∀ q : Nat, q < H.size → ¬ A1 q → H1[q]? = H[q]?) → va_S A0 H0 H1 locs1 → W p l e R s m args below meth c H1 locs1 (cells + mc) (slots + ms) Q (F0 m (pc + 3) ls (.int r :: rest))) : W p l e R s m args below meth c H locs cells slots Q (F0 m pc ls st0) := by
  intro T hT X
  rcases hr T hT X with ⟨v, st₀, t, T', L, h0, X', hL, e1, e2, ⟨⟨r, u, hv, hp, hb⟩, hF⟩, st⟩ | ⟨q, st₀, t, T', L, E, ce, h0, X', hL, e1, e2, ⟨u, hp, hb, hF⟩, hce, hcv, hcl, st⟩
  · cases hv
    obtain ⟨k1, k2, k3⟩ := vx_keep h0 e1 hS hA hf hL hF
    obtain ⟨t2, a1, b1⟩ := kk r u t T'.heap (locs ++ L) e1.symm (by rw [← e2]; exact X'.warmed.alike) hp hb k1 k2 k3 T' rfl X'
    exact ⟨t2, st t2 a1, b1⟩
  · obtain ⟨k1, k2, k3⟩ := vx_keep h0 e1 hS hAX hf hL hF
    obtain ⟨t2, a1, b1⟩ := kx E ce q u t T'.heap (locs ++ L) e1.symm (by rw [← e2]; exact X'.warmed.alike) hp hb k1 k2 k3 (by rw [e1]; exact hce) hcv hcl T' rfl X'
    exact ⟨t2, st.trans a1, b1⟩
theorem vx_calll {S SX : Type} {post : Int64 → S → Prop} {px : SX → Prop} {B : S → State → Prop} {BX : String → SX → State → Prop} {AX : Nat → Prop} (hr : vx_Run p l e R s m args below meth c H locs cells slots mc ms (F0 m pc ls st0) rest (va_Ql post B A1 a) (vx_X px BX AX) free) (hS : va_S A0 H0 H locs) (hA : ∀ q, q < H.size → A1 q → A0 q) (hf : ∀ q, free q → A0 q) (hAX : ∀ q, q < H.size → AX q → A0 q)
    (kx : ∀ (E : String) (ce : Cell) (q9 : Addr) (u : SX) (t : State) (H1 : Heap) (locs1 : List Loc), t.heap = H1 → s.vm.Alike t.vm → px u → BX E u t → H.size ≤ H1.size → (∀ q : Nat, q < H.size → ¬ AX q → H1[q]? = H[q]?) → va_S A0 H0 H1 locs1 → H1[q9]? = some ce → ce.vm = .none → s.vm.findClass E = some ce.cls → vx_W p l e R s m args below meth c H1 locs1 (cells + mc) (slots + ms) Q (F0 m pc ls rest) q9)
    (kk : ∀ (r : Int64) (u : S) (t : State) (H1 : Heap) (locs1 : List Loc), t.heap = H1 → s.vm.Alike t.vm → post r u → B u t → H.size ≤ H1.size → (∀ q : Nat, q < H.size → ¬ A1 q → H1[q]? = H[q]?) → va_S A0 H0 H1 locs1 → W p l e R s m args below meth c H1 locs1 (cells + mc) (slots + ms) Q (F0 m (pc + 3) ls (.long r :: rest))) : W p l e R s m args below meth c H locs cells slots Q (F0 m pc ls st0) := by
  intro T hT X
  rcases hr T hT X with ⟨v, st₀, t, T', L, h0, X', hL, e1, e2, ⟨⟨r, u, hv, hp, hb⟩, hF⟩, st⟩ | ⟨q, st₀, t, T', L, E, ce, h0, X', hL, e1, e2, ⟨u, hp, hb, hF⟩, hce, hcv, hcl, st⟩
  · cases hv
    obtain ⟨k1, k2, k3⟩ := vx_keep h0 e1 hS hA hf hL hF
    obtain ⟨t2, a1, b1⟩ := kk r u t T'.heap (locs ++ L) e1.symm (by rw [← e2]; exact X'.warmed.alike) hp hb k1 k2 k3 T' rfl X'
    exact ⟨t2, st t2 a1, b1⟩
  · obtain ⟨k1, k2, k3⟩ := vx_keep h0 e1 hS hAX hf hL hF
    obtain ⟨t2, a1, b1⟩ := kx E ce q u t T'.heap (locs ++ L) e1.symm (by rw [← e2]; exact X'.warmed.alike) hp hb k1 k2 k3 (by rw [e1]; exact hce) hcv hcl T' rfl X'
    exact ⟨t2, st.trans a1, b1⟩
theorem vx_callf {S SX : Type} {post : UInt32 → S → Prop} {px : SX → Prop} {B : S → State → Prop} {BX : String → SX → State → Prop} {AX : Nat → Prop} (hr : vx_Run p l e R s m args below meth c H locs cells slots mc ms (F0 m pc ls st0) rest (va_Qf post B A1 a) (vx_X px BX AX) free) (hS : va_S A0 H0 H locs) (hA : ∀ q, q < H.size → A1 q → A0 q) (hf : ∀ q, free q → A0 q) (hAX : ∀ q, q < H.size → AX q → A0 q)
    (kx : ∀ (E : String) (ce : Cell) (q9 : Addr) (u : SX) (t : State) (H1 : Heap) (locs1 : List Loc), t.heap = H1 → s.vm.Alike t.vm → px u → BX E u t → H.size ≤ H1.size → (∀ q : Nat, q < H.size → ¬ AX q → H1[q]? = H[q]?) → va_S A0 H0 H1 locs1 → H1[q9]? = some ce → ce.vm = .none → s.vm.findClass E = some ce.cls → vx_W p l e R s m args below meth c H1 locs1 (cells + mc) (slots + ms) Q (F0 m pc ls rest) q9)
    (kk : ∀ (r : UInt32) (u : S) (t : State) (H1 : Heap) (locs1 : List Loc), t.heap = H1 → s.vm.Alike t.vm → post r u → B u t → H.size ≤ H1.size → (∀ q : Nat, q < H.size → ¬ A1 q → H1[q]? = H[q]?) → va_S A0 H0 H1 locs1 → W p l e R s m args below meth c H1 locs1 (cells + mc) (slots + ms) Q (F0 m (pc + 3) ls (.float r :: rest))) : W p l e R s m args below meth c H locs cells slots Q (F0 m pc ls st0) := by
  intro T hT X
  rcases hr T hT X with ⟨v, st₀, t, T', L, h0, X', hL, e1, e2, ⟨⟨r, u, hv, hp, hb⟩, hF⟩, st⟩ | ⟨q, st₀, t, T', L, E, ce, h0, X', hL, e1, e2, ⟨u, hp, hb, hF⟩, hce, hcv, hcl, st⟩
  · cases hv
    obtain ⟨k1, k2, k3⟩ := vx_keep h0 e1 hS hA hf hL hF
    obtain ⟨t2, a1, b1⟩ := kk r u t T'.heap (locs ++ L) e1.symm (by rw [← e2]; exact X'.warmed.alike) hp hb k1 k2 k3 T' rfl X'
    exact ⟨t2, st t2 a1, b1⟩
  · obtain ⟨k1, k2, k3⟩ := vx_keep h0 e1 hS hAX hf hL hF
    obtain ⟨t2, a1, b1⟩ := kx E ce q u t T'.heap (locs ++ L) e1.symm (by rw [← e2]; exact X'.warmed.alike) hp hb k1 k2 k3 (by rw [e1]; exact hce) hcv hcl T' rfl X'
    exact ⟨t2, st.trans a1, b1⟩
theorem vx_calld {S SX : Type} {post : UInt64 → S → Prop} {px : SX → Prop} {B : S → State → Prop} {BX : String → SX → State → Prop} {AX : Nat → Prop} (hr : vx_Run p l e R s m args below meth c H locs cells slots mc ms (F0 m pc ls st0) rest (va_Qd post B A1 a) (vx_X px BX AX) free) (hS : va_S A0 H0 H locs) (hA : ∀ q, q < H.size → A1 q → A0 q) (hf : ∀ q, free q → A0 q) (hAX : ∀ q, q < H.size → AX q → A0 q)
    (kx : ∀ (E : String) (ce : Cell) (q9 : Addr) (u : SX) (t : State) (H1 : Heap) (locs1 : List Loc), t.heap = H1 → s.vm.Alike t.vm → px u → BX E u t → H.size ≤ H1.size → (∀ q : Nat, q < H.size → ¬ AX q → H1[q]? = H[q]?) → va_S A0 H0 H1 locs1 → H1[q9]? = some ce → ce.vm = .none → s.vm.findClass E = some ce.cls → vx_W p l e R s m args below meth c H1 locs1 (cells + mc) (slots + ms) Q (F0 m pc ls rest) q9)
    (kk : ∀ (r : UInt64) (u : S) (t : State) (H1 : Heap) (locs1 : List Loc), t.heap = H1 → s.vm.Alike t.vm → post r u → B u t → H.size ≤ H1.size → (∀ q : Nat, q < H.size → ¬ A1 q → H1[q]? = H[q]?) → va_S A0 H0 H1 locs1 → W p l e R s m args below meth c H1 locs1 (cells + mc) (slots + ms) Q (F0 m (pc + 3) ls (.double r :: rest))) : W p l e R s m args below meth c H locs cells slots Q (F0 m pc ls st0) := by
  intro T hT X
  rcases hr T hT X with ⟨v, st₀, t, T', L, h0, X', hL, e1, e2, ⟨⟨r, u, hv, hp, hb⟩, hF⟩, st⟩ | ⟨q, st₀, t, T', L, E, ce, h0, X', hL, e1, e2, ⟨u, hp, hb, hF⟩, hce, hcv, hcl, st⟩
  · cases hv
    obtain ⟨k1, k2, k3⟩ := vx_keep h0 e1 hS hA hf hL hF
    obtain ⟨t2, a1, b1⟩ := kk r u t T'.heap (locs ++ L) e1.symm (by rw [← e2]; exact X'.warmed.alike) hp hb k1 k2 k3 T' rfl X'
    exact ⟨t2, st t2 a1, b1⟩
  · obtain ⟨k1, k2, k3⟩ := vx_keep h0 e1 hS hAX hf hL hF
    obtain ⟨t2, a1, b1⟩ := kx E ce q u t T'.heap (locs ++ L) e1.symm (by rw [← e2]; exact X'.warmed.alike) hp hb k1 k2 k3 (by rw [e1]; exact hce) hcv hcl T' rfl X'
    exact ⟨t2, st.trans a1, b1⟩
theorem vx_callv {S SX : Type} {post : S → Prop} {px : SX → Prop} {B : S → State → Prop} {BX : String → SX → State → Prop} {AX : Nat → Prop} (hr : vx_Run p l e R s m args below meth c H locs cells slots mc ms (F0 m pc ls st0) rest (va_Qv post B A1 a) (vx_X px BX AX) free) (hS : va_S A0 H0 H locs) (hA : ∀ q, q < H.size → A1 q → A0 q) (hf : ∀ q, free q → A0 q) (hAX : ∀ q, q < H.size → AX q → A0 q)
    (kx : ∀ (E : String) (ce : Cell) (q9 : Addr) (u : SX) (t : State) (H1 : Heap) (locs1 : List Loc), t.heap = H1 → s.vm.Alike t.vm → px u → BX E u t → H.size ≤ H1.size → (∀ q : Nat, q < H.size → ¬ AX q → H1[q]? = H[q]?) → va_S A0 H0 H1 locs1 → H1[q9]? = some ce → ce.vm = .none → s.vm.findClass E = some ce.cls → vx_W p l e R s m args below meth c H1 locs1 (cells + mc) (slots + ms) Q (F0 m pc ls rest) q9)
    (kk : ∀ (u : S) (t : State) (H1 : Heap) (locs1 : List Loc), t.heap = H1 → s.vm.Alike t.vm → post u → B u t → H.size ≤ H1.size → (∀ q : Nat, q < H.size → ¬ A1 q → H1[q]? = H[q]?) → va_S A0 H0 H1 locs1 → W p l e R s m args below meth c H1 locs1 (cells + mc) (slots + ms) Q (F0 m (pc + 3) ls (rest))) : W p l e R s m args below meth c H locs cells slots Q (F0 m pc ls st0) := by
  intro T hT X
  rcases hr T hT X with ⟨v, st₀, t, T', L, h0, X', hL, e1, e2, ⟨⟨u, hv, hp, hb⟩, hF⟩, st⟩ | ⟨q, st₀, t, T', L, E, ce, h0, X', hL, e1, e2, ⟨u, hp, hb, hF⟩, hce, hcv, hcl, st⟩
  · cases hv
    obtain ⟨k1, k2, k3⟩ := vx_keep h0 e1 hS hA hf hL hF
    obtain ⟨t2, a1, b1⟩ := kk u t T'.heap (locs ++ L) e1.symm (by rw [← e2]; exact X'.warmed.alike) hp hb k1 k2 k3 T' rfl X'
    exact ⟨t2, st t2 a1, b1⟩
  · obtain ⟨k1, k2, k3⟩ := vx_keep h0 e1 hS hAX hf hL hF
    obtain ⟨t2, a1, b1⟩ := kx E ce q u t T'.heap (locs ++ L) e1.symm (by rw [← e2]; exact X'.warmed.alike) hp hb k1 k2 k3 (by rw [e1]; exact hce) hcv hcl T' rfl X'
    exact ⟨t2, st.trans a1, b1⟩
/-- caught by the row x of this method's table; the rows ahead don't take it -/
theorem vx_catch {own name : String} {E : String} {ce : Cell} {q : Addr} (hown : s.vm.findClass own = some m.cls) (pre : List ExceptionTableEntry) (x : ExceptionTableEntry) (suf : List ExceptionTableEntry) (hsplit : c.exceptionTable.toList = pre ++ x :: suf)
    (hpass : ∀ z ∈ pre, covers z pc = false ∨ (z.catchType ≠ 0 ∧ ∃ nm : String, (Cond.classLink own z.catchType nm).before args s = true ∧ va_Nc E nm s)) (hx : covers x pc = true) (h0 : x.catchType ≠ 0)
    (hlink : (Cond.classLink own x.catchType name).before args s = true) (hcast : (Cond.castable E name).before args s = true) (hcell : H[q]? = some ce) (hv : ce.vm = .none) (hcl : s.vm.findClass E = some ce.cls)
    (kk : W p l e R s m args below meth c H locs cells slots Q (F0 m x.handlerPc ls [.ref q])) : vx_W p l e R s m args below meth c H locs cells slots Q (F0 m pc ls rest) q := by
  intro T hT X
  have hpl : e.platform.magicAccessors = ({} : Platform).magicAccessors := by rw [X.admits.platform]
  obtain ⟨c3, c4, hc3, hc4, hasg⟩ := Cond.castable_spec hcast
  cases Option.some.inj (hc3.symm.trans hcl)
  obtain ⟨c5, hc5, hcl5⟩ := Cond.classLink_spec hown hlink e.platform hpl
  cases Option.some.inj (hc4.symm.trans hc5)
  obtain ⟨vm', X', st⟩ := X.thenCaughtThrough q (g := F0 m pc ls rest) rfl (Steps.refl _) (by rw [hT]; exact hcell) (by rw [hv]; rfl) (by obtain ⟨k9, h9, -⟩ := Vm.findClass_spec hcl; exact ⟨k9, h9⟩) pre x suf hsplit
    (fun z hz => by
      rcases hpass z hz with h | ⟨hz0, nm, hl1, hn1⟩
      · exact Or.inl h
      · obtain ⟨c6, hc6, hcl6⟩ := Cond.classLink_spec hown hl1 e.platform hpl
        obtain ⟨a8, b8, h1, h2, h3⟩ := hn1
        cases Option.some.inj (h1.symm.trans hcl)
        cases Option.some.inj (h2.symm.trans hc6)
        exact Or.inr ⟨hz0, _, hcl6, h3⟩) hx (Or.inr ⟨h0, c4, hcl5, hasg⟩)
  obtain ⟨t, a1, b1⟩ := kk (T.setVm vm') hT X'
  exact ⟨t, st.trans a1, b1⟩
end Rows
section Ends
variable {p : Program} {l : Launch} {e : Env} {R : Room} {s : State} {m : MethodId} {args : Array Value} {below : List Frame} {meth : Method} {c : Code} {H : Heap} {locs : List Loc} {cells slots : Nat} {Q : State → Prop}
variable {mc ms : Nat} {free : Addr → Prop} {A0 A1 : Nat → Prop} {H0 : Heap} {a : Array Value} {ls : Array Slot} {st0 rest : List Value}
variable {Qc : Array Value → State → Outcome → State → Prop} {XC : String → State → State → Prop}
/-- what a body that may throw owes at its end -/
def vx_MQ (below : List Frame) (Qc : Array Value → State → Outcome → State → Prop) (XC : String → State → State → Prop) (a : Array Value) (s : State) (mc ms : Nat) (free : Addr → Prop) : State → Prop := fun t =>
  ∃ o, t.status = .running ∧ Ended t below o ∧ vx_Q Qc XC mc ms free a s o t
theorem vx_ret {g : JFrame} {mc ms : Nat} (k : W p l e R s m args below meth c H locs cells slots (MQ below Qc args s mc ms free) g) : W p l e R s m args below meth c H locs cells slots (vx_MQ below Qc XC args s mc ms free) g := by
  intro T hT X
  obtain ⟨t, a1, o, b1, b2, b3, b4⟩ := k T hT X
  exact ⟨t, a1, o, b1, b2, Or.inl ⟨b3, b4⟩⟩
/-- not caught here: it goes on to the caller -/
theorem vx_widen {g : JFrame} {q : Addr} {k n : Nat} (h1 : cells ≤ k) (h2 : slots ≤ n) (kk : vx_W p l e R s m args below meth c H locs k n Q g q) : vx_W p l e R s m args below meth c H locs cells slots Q g q := fun T hT X => kk T hT (stand_widen X h1 h2)
theorem vx_out {pc : Nat} {E : String} {ce : Cell} {q : Addr} {mc ms : Nat} (hout : ∀ x ∈ c.exceptionTable.toList, covers x pc = false) (hlocks : meth.locks = false) (hcell : H[q]? = some ce) (hv : ce.vm = .none) (hcl : s.vm.findClass E = some ce.cls)
    (hx : ∀ t : State, t.heap = H → s.vm.Alike t.vm → XC E s t) (hf : ∀ z ∈ locs, free z.base) (hc : cells ≤ mc) (hs : slots ≤ ms) :
    vx_W p l e R s m args below meth c H locs cells slots (vx_MQ below Qc XC args s mc ms free) (F0 m pc ls rest) q := by
  intro T hT X
  obtain ⟨st1, hrun, hend, hW, hsm⟩ := X.leaveThrown q (g := F0 m pc ls rest) rfl rfl rfl hout hlocks
  have hcell9 : (T.setFrames (.throwing q :: below)).heap[q]? = some ce := by
    show T.heap[q]? = some ce
    rw [hT]; exact hcell
  exact ⟨_, st1, .threw q, hrun, hend, Or.inr ⟨q, rfl, E, ce, locs, hx _ hT hW.alike, hcell9, hv, hcl, hW, hsm.mono hc hs, hf⟩⟩
theorem vx_frame {U : State} {k n : Nat} (h : s.sameButNew ({ U with vm := s.vm } : State) locs k n) : s.heap.size ≤ U.heap.size ∧ ∀ q : Nat, q < s.heap.size → (∀ z ∈ locs, z.base ≠ q) → U.heap[q]? = s.heap[q]? := by
  obtain ⟨-, h2, -, -, -, h6⟩ := h
  refine ⟨h2, fun q hq hz => ?_⟩
  obtain ⟨c9, e1, e2, e3, e4⟩ := h6 q _ (Array.getElem?_eq_getElem hq)
  have hs : c9.slots = (s.heap[q]).slots := Array.ext_getElem? fun i => e4 i fun hm => hz _ hm rfl
  have h9 : c9 = s.heap[q] := by
    rw [hs] at e2
    exact e2
  have e5 : U.heap[q]? = some c9 := e1
  rw [e5, h9, Array.getElem?_eq_getElem hq]
/-- the words of a throw but the four that speak of the heap -/
def vx_no (w : Cond) : Bool := decide (w ≠ .isRef (.static Bundle.tN "UNASSIGNED_STACK" Bundle.steD)) && decide (w ≠ .isRef (.static Bundle.tN "SUPPRESSED_SENTINEL" Bundle.listD)) && decide (w ≠ .laysStatic Bundle.tN "UNASSIGNED_STACK" Bundle.steD) && decide (w ≠ .laysStatic Bundle.tN "SUPPRESSED_SENTINEL" Bundle.listD)
def vx_at0 (own : String) (ic : Nat) (X : String) (names : List String) : List Cond := (Bundle.ownAtoms0 own ic X names).filter vx_no
def vx_atS (own : String) (ic : Nat) (X : String) (names : List String) : List Cond := (Bundle.ownAtoms own ic X names).filter vx_no
/-- a word that the tables alone decide, or a good one -/
def vx_ot (w : Cond) : Bool := w.onTables || goodWord w
theorem vx_ot_at {args a' : Array Value} {s U : State} {w : Cond} (hW : s.WarmedH U.vm) (hvm : s.vm = U.vm) (hg : vx_ot w = true) (h : w.before args s = true) : w.before a' U = true := by
  simp only [vx_ot, Bool.or_eq_true] at hg
  rcases hg with hg | hg
  · exact va_tabs hg hvm h
  · exact word_at hW (good_of_word hg) h
/-- a list's words: the good ones out of the method's own list, the others by premises of their own -/
theorem vx_hat {args : Array Value} {s : State} {L B : List Cond} (h1 : ∀ w ∈ L.filter goodWord, w.before args s = true) (h2 : ∀ w ∈ L.filter (fun w => !goodWord w), w ∈ B) (h3 : ∀ w ∈ B, w.before args s = true) : ∀ w ∈ L, w.before args s = true := by
  intro w hw
  by_cases g : goodWord w = true
  · exact h1 w (List.mem_filter.mpr ⟨hw, g⟩)
  · refine h3 w (h2 w (List.mem_filter.mpr ⟨hw, ?_⟩))
    show (!goodWord w) = true
    cases hgw : goodWord w
    · rfl
    · exact absurd hgw g
theorem vx_c {args : Array Value} {s : State} {w : Cond} {B : List Cond} (h : w.before args s = true) (t : ∀ w ∈ B, w.before args s = true) : ∀ w' ∈ w :: B, w'.before args s = true := fun w' h' => (List.mem_cons.mp h').elim (fun e => by rw [e]; exact h) (t w')
theorem vx_n {args : Array Value} {s : State} : ∀ w ∈ ([] : List Cond), w.before args s = true := fun _ h => nomatch h
theorem vx_own {args : Array Value} {s : State} {L : List Cond} (h1 : ∀ w ∈ L.filter vx_no, w.before args s = true)
    (hU : (Cond.isRef (.static Bundle.tN "UNASSIGNED_STACK" Bundle.steD)).before args s = true) (hN : (Cond.isRef (.static Bundle.tN "SUPPRESSED_SENTINEL" Bundle.listD)).before args s = true)
    (lU : (Cond.laysStatic Bundle.tN "UNASSIGNED_STACK" Bundle.steD).before args s = true) (lN : (Cond.laysStatic Bundle.tN "SUPPRESSED_SENTINEL" Bundle.listD).before args s = true) : ∀ w ∈ L, w.before args s = true := by
  intro w hw
  by_cases e1 : w = .isRef (.static Bundle.tN "UNASSIGNED_STACK" Bundle.steD)
  · rw [e1]; exact hU
  · by_cases e2 : w = .isRef (.static Bundle.tN "SUPPRESSED_SENTINEL" Bundle.listD)
    · rw [e2]; exact hN
    · by_cases e3 : w = .laysStatic Bundle.tN "UNASSIGNED_STACK" Bundle.steD
      · rw [e3]; exact lU
      · by_cases e4 : w = .laysStatic Bundle.tN "SUPPRESSED_SENTINEL" Bundle.listD
        · rw [e4]; exact lN
        · exact h1 w (List.mem_filter.mpr ⟨hw, by unfold vx_no; rw [decide_eq_true e1, decide_eq_true e2, decide_eq_true e3, decide_eq_true e4]; rfl⟩)
/-- where a static field lies, its class's statics cell in H -/
def vx_L (C n d : String) (A : Nat → Prop) (U : State) (H : Heap) : Prop := ∃ (c : ClassId) (k : Class) (i : Nat) (f : Field) (a : Nat) (cell : Cell), U.vm.findClass C = some c ∧ U.fieldFound? C n d = some (c, k, i, f) ∧ f.isStatic = true ∧ k.statics = some a ∧ H[a]? = some cell ∧ cell.vm.isStatics = true ∧ cell.cls = c ∧ f.slot < cell.slots.size ∧ k.staticTypes[f.slot]? = some f.type ∧ ¬ A a
theorem vx_L.moved {C n d : String} {A : Nat → Prop} {u U : State} {H : Heap} (hvm : u.vm.Alike U.vm) (h : vx_L C n d A u H) : vx_L C n d A U H := by
  obtain ⟨c, k, i, f, a, cell, h1, h2, h3, h4, h5, h6, h7, h8, h9, h10⟩ := h
  obtain ⟨k', hi', he⟩ := State.fieldFound?_setVm hvm h2
  exact ⟨c, k', i, f, a, cell, by rw [hvm.findClass]; exact h1, hi', h3, by rw [he]; exact h4, h5, h6, h7, h8, by rw [he]; exact h9, h10⟩
theorem vx_L.kept {C n d : String} {A : Nat → Prop} {U : State} {H H1 : Heap} (h : vx_L C n d A U H) (hq : ∀ a : Nat, a < H.size → ¬ A a → H1[a]? = H[a]?) : vx_L C n d A U H1 := by
  obtain ⟨c, k, i, f, a, cell, h1, h2, h3, h4, h5, h6, h7, h8, h9, h10⟩ := h
  exact ⟨c, k, i, f, a, cell, h1, h2, h3, h4, by rw [hq a (Array.getElem?_eq_some_iff.mp h5).1 h10]; exact h5, h6, h7, h8, h9, h10⟩
theorem vx_L.narrow {C n d : String} {A B : Nat → Prop} {U : State} {H : Heap} (h : vx_L C n d A U H) (hAB : ∀ q, B q → A q) : vx_L C n d B U H := by
  obtain ⟨c, k, i, f, a, cell, h1, h2, h3, h4, h5, h6, h7, h8, h9, h10⟩ := h
  exact ⟨c, k, i, f, a, cell, h1, h2, h3, h4, h5, h6, h7, h8, h9, fun z => h10 (hAB _ z)⟩
theorem vx_L.word {C n d : String} {A : Nat → Prop} {s : State} {args : Array Value} (h : vx_L C n d A s s.heap) : (Cond.laysStatic C n d).before args s = true := by
  obtain ⟨c, k, i, f, a, cell, h1, h2, h3, h4, h5, h6, h7, h8, h9, -⟩ := h
  show (Cond.laysStatic C n d).holds args s none s [] = true
  exact Cond.laysStatic_of h1 h2 h3 h4 h5 h6 h7 h8 h9
/-- .. and what it holds: null or some reference -/
def vx_Zq (C n d : String) (A : Nat → Prop) (U : State) (H : Heap) : Prop := va_Zq C n d A U H ∧ vx_L C n d A U H
theorem vx_Zq.moved {C n d : String} {A : Nat → Prop} {u U : State} {H : Heap} (hvm : u.vm.Alike U.vm) (h : vx_Zq C n d A u H) : vx_Zq C n d A U H := ⟨va_Zq.moved hvm h.1, vx_L.moved hvm h.2⟩
theorem vx_Zq.kept {C n d : String} {A : Nat → Prop} {U : State} {H H1 : Heap} (h : vx_Zq C n d A U H) (hq : ∀ a : Nat, a < H.size → ¬ A a → H1[a]? = H[a]?) : vx_Zq C n d A U H1 := ⟨va_Zq.kept h.1 hq, vx_L.kept h.2 hq⟩
theorem vx_Zq.narrow {C n d : String} {A B : Nat → Prop} {U : State} {H : Heap} (h : vx_Zq C n d A U H) (hAB : ∀ q, B q → A q) : vx_Zq C n d B U H := ⟨va_Zq.narrow h.1 hAB, vx_L.narrow h.2 hAB⟩
theorem vx_Zqof {args : Array Value} {s : State} {C n d : String} {A : Nat → Prop} (hl : (Cond.laysStatic C n d).before args s = true) (hini : (Cond.initialized C).before args s = true) (h : (Cond.isRef (.static C n d)).before args s = true) (hA : ∀ a : Nat, a < s.heap.size → ¬ A a) : vx_Zq C n d A s s.heap := by
  refine ⟨va_Zqof hl hini h hA, ?_⟩
  obtain ⟨c, k, i, f, a, cell, h1, h2, h3, h4, h5, h6, h7, h8, h9⟩ := Cond.laysStatic_spec hl
  exact ⟨c, k, i, f, a, cell, h1, h2, h3, h4, h5, h6, h7, h8, h9, hA a (Array.getElem?_eq_some_iff.mp h5).1⟩
theorem vx_isRef {C n d : String} {v : Value} {A : Nat → Prop} {s : State} {args : Array Value} (h : va_Z C n d v A s s.heap) (hv : v.isRef = true) : (Cond.isRef (.static C n d)).before args s = true := by
  obtain ⟨cf, kf, fi, f, a, cell, h1, h2, h3, h4, h5, h6, h7, -⟩ := h
  have he : (Term.static C n d).eval args s none [] s = some v := by
    simp [Term.eval, State.fieldNamed?, h1, h2, h4, h5, h6, h7]
  simp only [Cond.before, Cond.holds, Cond.value, he]
  cases v <;> simp_all [Value.isRef]
theorem vx_isRefq {C n d : String} {A : Nat → Prop} {s : State} {args : Array Value} (h : va_Zq C n d A s s.heap) : (Cond.isRef (.static C n d)).before args s = true := by
  rcases h with h | ⟨t, h⟩
  · exact vx_isRef h rfl
  · exact vx_isRef h rfl
/-- the same frame, seen from here: as if the method were called anew in this heap -/
theorem vx_rebase {T : State} (X : Stand p l e R s m args below meth c T locs cells slots) {R' : Room} (hf : R'.frames ≤ R.frames) (hl : R'.locals ≤ R.locals) (hc : cells + R'.cells ≤ R.cells) (hs : slots + R'.slots ≤ R.slots) :
    Stand p l e R' ((T.setVm s.vm).setFrames (.invoking m args :: below)) m args below meth c T [] 0 0 := by
  have htop : (T.setVm s.vm).topJava?.isSome := X.here.top
  have hF : ((T.setVm s.vm).setFrames (.invoking m args :: below)).frames = .invoking m args :: below := State.frames_setFrames _ (State.cur_lt_of_top htop)
  obtain ⟨g₀, hg0⟩ := Option.isSome_iff_exists.mp htop
  obtain ⟨r, hr⟩ := State.topJava?_eq_some.mp hg0
  have hl9 : e.platform.stackLimits (T.setVm s.vm).me = e.platform.stackLimits s.me := X.limits
  have hb9 : (T.setVm s.vm).me.stackBytes = s.me.stackBytes := X.bytes
  refine ⟨X.admits, X.cas, X.clock, hF, ?_, X.hears, X.method, X.code, X.here, X.tail, X.warmed, ?_, ?_, ?_⟩
  · have h := X.room
    have hU : ((T.setVm s.vm).setFrames (.invoking m args :: below)).localsInUse = s.localsInUse := by
      rw [State.localsInUse_invoking hF (meth := meth) (c := c) X.method X.code, State.localsInUse_invoking X.frames X.method X.code]
    simp only [State.hasRoom, Bool.and_eq_true, decide_eq_true_eq] at h ⊢
    obtain ⟨⟨⟨⟨h1, h2, h3, h4, h5, h6⟩, h7⟩, h8⟩, h9⟩ := h
    rw [X.frames, List.length_cons] at h2 h3
    have q1 := X.heapSize
    have q2 := X.used
    simp only [hF, hU, List.length_cons, State.stackLimits_setFrames, State.stackBytes_setFrames, hl9, hb9]
    refine ⟨⟨⟨⟨by omega, by omega, by omega, by omega, by omega, h6⟩, ?_⟩, ?_⟩, X.book⟩
    · show T.heap.size + R'.cells ≤ e.platform.maxCells
      omega
    · show T.slotsUsed + R'.slots ≤ e.platform.maxSlots
      omega
  · rw [State.stackLimits_setFrames]; rfl
  · rw [State.stackBytes_setFrames]; rfl
  · refine ⟨?_, Nat.le_refl _, Nat.le_refl _, ?_, ?_, fun a c9 h9 => ⟨c9, h9, rfl, rfl, fun _ _ => rfl⟩⟩
    · obtain ⟨t, ht, -⟩ := State.frames_cons hr
      show T.setVm s.vm = { ((T.setVm s.vm).setFrames (.invoking m args :: below)).setFrames (T.setVm s.vm).frames with heap := T.heap, slotsUsed := T.slotsUsed }
      rw [State.setFrames_setFrames, State.setFrames_self ht]
      rfl
    · show T.slotsUsed = T.slotsUsed + ((T.heap.toList.drop T.heap.size).map (·.slots.size)).sum
      rw [List.drop_eq_nil_of_le (Nat.le_of_eq Array.length_toList)]
      rfl
    · show ((T.heap.toList.drop T.heap.size).map (·.slots.size)).sum ≤ 0
      rw [List.drop_eq_nil_of_le (Nat.le_of_eq Array.length_toList)]
      exact Nat.le_refl _
/-- 'throw new E()': new; dup; invokespecial; athrow -/
theorem vx_throw0 {cc : ByteArray} {pc : Nat} (hexec : p.tables.exec = Jvm.exec) (hb : c.code = cc) (hl : l.stackTraces = false) {own cls : String} {names : List String} {ik ic mc ms : Nat} {A : Nat → Prop}
    (hown : s.vm.findClass own = some m.cls) (hcls : Bundle.fit cls = true) (hnames : ∀ n ∈ names, Bundle.fit n = true)
    (hk : (Cond.classLink own ik cls).before args s = true) (hini : (Cond.initialized cls).before args s = true) (hat : ∀ w ∈ vx_at0 own ic cls names, w.before args s = true)
    (hgood : ∀ w ∈ Cond.classLink own ik cls :: Cond.initialized cls :: vx_at0 own ic cls names, vx_ot w = true)
    (hU : vx_Zq Bundle.tN "UNASSIGNED_STACK" Bundle.steD A s s.heap) (hN : vx_Zq Bundle.tN "SUPPRESSED_SENTINEL" Bundle.listD A s s.heap) (hS : va_S A s.heap H locs) (hsize : ls.size = c.maxLocals)
    (d0 : decode cc pc = .ok (.new ik, 3)) (d3 : decode cc (pc + 3) = .ok (.dup, 1)) (d4 : decode cc (pc + 4) = .ok (.invokespecial ic, 3)) (d7 : decode cc (pc + 7) = .ok (.athrow, 1))
    (hout : ∀ x ∈ c.exceptionTable.toList, covers x (pc + 7) = false)
    (hRframes : names.length + 3 < R.frames) (hRlocals : (rest.map fun v => v.category).sum + (13 * (names.length + 1) + 42) ≤ R.locals) (hRcells : cells + 1 ≤ R.cells) (hRslots : slots + 6 ≤ R.slots) (hlocks : meth.locks = false)
    (hx : ∀ t : State, s.vm.Alike t.vm → H.size ≤ t.heap.size → (∀ q : Nat, q < H.size → t.heap[q]? = H[q]?) → XC cls s t)
    (hf : ∀ z ∈ locs, free z.base) (hc : cells + 1 ≤ mc) (hs : slots + 6 ≤ ms) :
    W p l e R s m args below meth c H locs cells slots (vx_MQ below Qc XC args s mc ms free) (F0 m pc ls rest) := by
  intro T hT X
  have htr : e.platform.stackTraces = false := (show e.platform.stackTraces = l.stackTraces by rw [X.admits.platform]).trans hl
  have Y := vx_rebase X (R' := { frames := R.frames, locals := R.locals, cells := 1, slots := 6 }) (Nat.le_refl _) (Nat.le_refl _) hRcells hRslots
  obtain ⟨s', hA⟩ : ∃ z, z = (T.setVm s.vm).setFrames (.invoking m args :: below) := ⟨_, rfl⟩
  rw [← hA] at Y
  have hvm : s'.vm = s.vm := by rw [hA]; rfl
  have hhp : s'.heap = H := by rw [hA]; exact hT
  have hW0 : s.WarmedH s'.vm := by rw [hvm]; exact State.WarmedH.refl s
  have hat' : ∀ w ∈ vx_at0 own ic cls names, w.before args s' = true := fun w hw => vx_ot_at hW0 hvm.symm (hgood w (List.mem_cons_of_mem _ (List.mem_cons_of_mem _ hw))) (hat w hw)
  have hk' : (Cond.classLink own ik cls).before args s' = true := vx_ot_at hW0 hvm.symm (hgood _ List.mem_cons_self) hk
  have hini' : (Cond.initialized cls).before args s' = true := vx_ot_at hW0 hvm.symm (hgood _ (List.mem_cons_of_mem _ List.mem_cons_self)) hini
  have hU' : vx_Zq Bundle.tN "UNASSIGNED_STACK" Bundle.steD A s' s'.heap := by rw [hhp]; exact vx_Zq.moved hW0.alike (hU.kept hS.2.1)
  have hN' : vx_Zq Bundle.tN "SUPPRESSED_SENTINEL" Bundle.listD A s' s'.heap := by rw [hhp]; exact vx_Zq.moved hW0.alike (hN.kept hS.2.1)
  have h : ∀ w ∈ Bundle.ownAtoms0 own ic cls names, w.before args s' = true := vx_own hat' (vx_isRefq hU'.1) (vx_isRefq hN'.1) hU'.2.word hN'.2.word
  have hown' : s'.vm.findClass own = some m.cls := by rw [hvm]; exact hown
  have hins : (Cond.instantiable cls 6).before args s' = true := h _ (by simp [Bundle.ownAtoms0])
  obtain ⟨vm₁, cX, kX, hfX, hkX, -, -, X₁, st1⟩ := Y.newCold hexec (own := own) (C := cls) (index := ik) (n := 6) hown' hk' hins hini'
    (g := F0 m pc ls rest) rfl (by rw [hb]; exact d0) (Nat.le_refl _) (Nat.le_refl _)
  generalize hT1 : (T.setVm vm₁).pushCell { cls := cX, slots := kX.instanceTypes.map defaultValue, vm := .none } = T1 at X₁ st1
  have hcat : (Value.ref T.heap.size).category = 1 := rfl
  have hcellA : T1.heap[T.heap.size]? = some (freshCell cX kX) := by rw [← hT1]; exact State.heap_pushCell_size _ _
  have d3' : decode c.code (pc + 3) = .ok (.dup, 1) := by rw [hb]; exact d3
  obtain ⟨U, hsteps, hrun, hend, hW, hsame, ce, hce, hO⟩ := X₁.ctorThrow0 hexec htr (own := own) (cls := cls) (names := names) (ic := ic) hown' hcls hnames h (fun x hx => nomatch hx) hfX hkX hcellA (by rw [hhp, hT]; exact Nat.le_refl _)
    (g := { method := m, pc := pc + 4, locals := ls, stack := .ref T.heap.size :: .ref T.heap.size :: rest, locked := none }) rfl hsize rfl rfl (rest := rest) rfl
    (by rw [hb]; exact d4) (by rw [hb]; exact d7) hout hRframes (by simp only [List.map_cons, List.sum_cons, hcat]; omega) hlocks
  obtain ⟨f1, f2⟩ := vx_frame hsame
  rw [hhp] at f1 f2
  have hWs : s.WarmedH U.vm := State.WarmedH.trans hW0 hW
  have hcl : s.vm.findClass cls = some ce.cls := by
    have h9 := hO.cls
    rw [hvm] at h9
    exact h9
  have hall : s.sameButNew ({ U with vm := s.vm } : State) locs mc ms := by
    subst hA
    obtain ⟨e1, e2⟩ := hsame
    rw [State.setFrames_setFrames] at e1
    have h2 : (T.setVm s.vm).sameButNew ({ U with vm := s.vm } : State) [] (0 + 1) (0 + 6) := ⟨e1, e2⟩
    have h3 := X.same.trans h2
    rw [List.append_nil] at h3
    exact h3.mono hc hs
  refine ⟨U, ?_, .threw T.heap.size, hrun, hend, Or.inr ⟨T.heap.size, rfl, cls, ce, locs, hx U hWs.alike f1 (fun q hq => f2 q hq (fun z hz => nomatch hz)), hce, hO.vm, hcl, hWs, hall, hf⟩⟩
  refine st1 _ ?_
  show Steps p.tables e below (T1.setTop { method := m, pc := pc + 3, locals := ls, stack := .ref T.heap.size :: rest, locked := none }) _
  jvm_step X₁.here [X₁.here.top, hexec, d3', Value.category]
  exact hsteps
/-- 'throw new E("text")': new; dup; ldc; invokespecial; athrow -/
theorem vx_throwS {cc : ByteArray} {pc : Nat} (hexec : p.tables.exec = Jvm.exec) (hb : c.code = cc) (hl : l.stackTraces = false) {own cls text : String} {names : List String} {ik is ic mc ms sa : Nat} {A : Nat → Prop}
    (hown : s.vm.findClass own = some m.cls) (hcls : Bundle.fit cls = true) (hnames : ∀ n ∈ names, Bundle.fit n = true)
    (hk : (Cond.classLink own ik cls).before args s = true) (hini : (Cond.initialized cls).before args s = true) (hstr : vk_R own is text sa s) (hat : ∀ w ∈ vx_atS own ic cls names, w.before args s = true)
    (hgood : ∀ w ∈ Cond.classLink own ik cls :: Cond.initialized cls :: vx_atS own ic cls names, vx_ot w = true)
    (hU : vx_Zq Bundle.tN "UNASSIGNED_STACK" Bundle.steD A s s.heap) (hN : vx_Zq Bundle.tN "SUPPRESSED_SENTINEL" Bundle.listD A s s.heap) (hS : va_S A s.heap H locs) (hsize : ls.size = c.maxLocals)
    (d0 : decode cc pc = .ok (.new ik, 3)) (d3 : decode cc (pc + 3) = .ok (.dup, 1)) (d4 : decode cc (pc + 4) = .ok (.ldc is, 2)) (d6 : decode cc (pc + 6) = .ok (.invokespecial ic, 3)) (d9 : decode cc (pc + 9) = .ok (.athrow, 1))
    (hout : ∀ x ∈ c.exceptionTable.toList, covers x (pc + 9) = false)
    (hRframes : names.length + 3 < R.frames) (hRlocals : (rest.map fun v => v.category).sum + (13 * (names.length + 1) + 43) ≤ R.locals) (hRcells : cells + 1 ≤ R.cells) (hRslots : slots + 6 ≤ R.slots) (hlocks : meth.locks = false)
    (hx : ∀ t : State, s.vm.Alike t.vm → H.size ≤ t.heap.size → (∀ q : Nat, q < H.size → t.heap[q]? = H[q]?) → XC cls s t)
    (hf : ∀ z ∈ locs, free z.base) (hc : cells + 1 ≤ mc) (hs : slots + 6 ≤ ms) :
    W p l e R s m args below meth c H locs cells slots (vx_MQ below Qc XC args s mc ms free) (F0 m pc ls rest) := by
  intro T hT X
  have htr : e.platform.stackTraces = false := (show e.platform.stackTraces = l.stackTraces by rw [X.admits.platform]).trans hl
  have Y := vx_rebase X (R' := { frames := R.frames, locals := R.locals, cells := 1, slots := 6 }) (Nat.le_refl _) (Nat.le_refl _) hRcells hRslots
  obtain ⟨s', hA⟩ : ∃ z, z = (T.setVm s.vm).setFrames (.invoking m args :: below) := ⟨_, rfl⟩
  rw [← hA] at Y
  have hvm : s'.vm = s.vm := by rw [hA]; rfl
  have hhp : s'.heap = H := by rw [hA]; exact hT
  have hW0 : s.WarmedH s'.vm := by rw [hvm]; exact State.WarmedH.refl s
  have hat' : ∀ w ∈ vx_atS own ic cls names, w.before args s' = true := fun w hw => vx_ot_at hW0 hvm.symm (hgood w (List.mem_cons_of_mem _ (List.mem_cons_of_mem _ hw))) (hat w hw)
  have hk' : (Cond.classLink own ik cls).before args s' = true := vx_ot_at hW0 hvm.symm (hgood _ List.mem_cons_self) hk
  have hini' : (Cond.initialized cls).before args s' = true := vx_ot_at hW0 hvm.symm (hgood _ (List.mem_cons_of_mem _ List.mem_cons_self)) hini
  have hU' : vx_Zq Bundle.tN "UNASSIGNED_STACK" Bundle.steD A s' s'.heap := by rw [hhp]; exact vx_Zq.moved hW0.alike (hU.kept hS.2.1)
  have hN' : vx_Zq Bundle.tN "SUPPRESSED_SENTINEL" Bundle.listD A s' s'.heap := by rw [hhp]; exact vx_Zq.moved hW0.alike (hN.kept hS.2.1)
  have h : ∀ w ∈ Bundle.ownAtoms own ic cls names, w.before args s' = true := vx_own hat' (vx_isRefq hU'.1) (vx_isRefq hN'.1) hU'.2.word hN'.2.word
  have hown' : s'.vm.findClass own = some m.cls := by rw [hvm]; exact hown
  have hins : (Cond.instantiable cls 6).before args s' = true := h _ (by simp [Bundle.ownAtoms])
  obtain ⟨vm₁, cX, kX, hfX, hkX, -, -, X₁, st1⟩ := Y.newCold hexec (own := own) (C := cls) (index := ik) (n := 6) hown' hk' hins hini'
    (g := F0 m pc ls rest) rfl (by rw [hb]; exact d0) (Nat.le_refl _) (Nat.le_refl _)
  generalize hT1 : (T.setVm vm₁).pushCell { cls := cX, slots := kX.instanceTypes.map defaultValue, vm := .none } = T1 at X₁ st1
  have hcat : (Value.ref T.heap.size).category = 1 := rfl
  have hcellA : T1.heap[T.heap.size]? = some (freshCell cX kX) := by rw [← hT1]; exact State.heap_pushCell_size _ _
  have d3' : decode c.code (pc + 3) = .ok (.dup, 1) := by rw [hb]; exact d3
  have d4' : decode c.code (pc + 4) = .ok (.ldc is, 2) := by rw [hb]; exact d4
  have hstr' : vk_R own is text sa s' := vk_R.warm hW0 hstr
  obtain ⟨U, hsteps, hrun, hend, hW, hsame, ce, hce, hO⟩ := X₁.ctorThrowS hexec htr (own := own) (cls := cls) (names := names) (ic := ic) hown' hcls hnames h (fun x hx => nomatch hx) hfX hkX hcellA (by rw [hhp, hT]; exact Nat.le_refl _) (msg := .ref sa) rfl
    (g := { method := m, pc := pc + 6, locals := ls, stack := .ref sa :: .ref T.heap.size :: .ref T.heap.size :: rest, locked := none }) rfl hsize rfl rfl (rest := rest) rfl
    (by rw [hb]; exact d6) (by rw [hb]; exact d9) hout hRframes (by simp only [List.map_cons, List.sum_cons, hcat]; omega) hlocks
  obtain ⟨f1, f2⟩ := vx_frame hsame
  rw [hhp] at f1 f2
  have hWs : s.WarmedH U.vm := State.WarmedH.trans hW0 hW
  have hcl : s.vm.findClass cls = some ce.cls := by
    have h9 := hO.cls
    rw [hvm] at h9
    exact h9
  have hall : s.sameButNew ({ U with vm := s.vm } : State) locs mc ms := by
    subst hA
    obtain ⟨e1, e2⟩ := hsame
    rw [State.setFrames_setFrames] at e1
    have h2 : (T.setVm s.vm).sameButNew ({ U with vm := s.vm } : State) [] (0 + 1) (0 + 6) := ⟨e1, e2⟩
    have h3 := X.same.trans h2
    rw [List.append_nil] at h3
    exact h3.mono hc hs
  refine ⟨U, ?_, .threw T.heap.size, hrun, hend, Or.inr ⟨T.heap.size, rfl, cls, ce, locs, hx U hWs.alike f1 (fun q hq => f2 q hq (fun z hz => nomatch hz)), hce, hO.vm, hcl, hWs, hall, hf⟩⟩
  refine st1 _ ?_
  show Steps p.tables e below (T1.setTop { method := m, pc := pc + 3, locals := ls, stack := .ref T.heap.size :: rest, locked := none }) _
  jvm_step X₁.here [X₁.here.top, hexec, d3', Value.category]
  exact X₁.ldcString hexec (own := own) (text := text) (index := is) (a := sa) hown' hstr'.1 hstr'.2
    (g := { method := m, pc := pc + 4, locals := ls, stack := .ref T.heap.size :: .ref T.heap.size :: rest, locked := none }) rfl d4' _ hsteps
/-- 'throw new E("text")', the text by a wide index -/
theorem vx_throwSW {cc : ByteArray} {pc : Nat} (hexec : p.tables.exec = Jvm.exec) (hb : c.code = cc) (hl : l.stackTraces = false) {own cls text : String} {names : List String} {ik is ic mc ms sa : Nat} {A : Nat → Prop}
    (hown : s.vm.findClass own = some m.cls) (hcls : Bundle.fit cls = true) (hnames : ∀ n ∈ names, Bundle.fit n = true)
    (hk : (Cond.classLink own ik cls).before args s = true) (hini : (Cond.initialized cls).before args s = true) (hstr : vk_R own is text sa s) (hat : ∀ w ∈ vx_atS own ic cls names, w.before args s = true)
    (hgood : ∀ w ∈ Cond.classLink own ik cls :: Cond.initialized cls :: vx_atS own ic cls names, vx_ot w = true)
    (hU : vx_Zq Bundle.tN "UNASSIGNED_STACK" Bundle.steD A s s.heap) (hN : vx_Zq Bundle.tN "SUPPRESSED_SENTINEL" Bundle.listD A s s.heap) (hS : va_S A s.heap H locs) (hsize : ls.size = c.maxLocals)
    (d0 : decode cc pc = .ok (.new ik, 3)) (d3 : decode cc (pc + 3) = .ok (.dup, 1)) (d4 : decode cc (pc + 4) = .ok (.ldc_w is, 3)) (d7 : decode cc (pc + 7) = .ok (.invokespecial ic, 3)) (d10 : decode cc (pc + 10) = .ok (.athrow, 1))
    (hout : ∀ x ∈ c.exceptionTable.toList, covers x (pc + 10) = false)
    (hRframes : names.length + 3 < R.frames) (hRlocals : (rest.map fun v => v.category).sum + (13 * (names.length + 1) + 43) ≤ R.locals) (hRcells : cells + 1 ≤ R.cells) (hRslots : slots + 6 ≤ R.slots) (hlocks : meth.locks = false)
    (hx : ∀ t : State, s.vm.Alike t.vm → H.size ≤ t.heap.size → (∀ q : Nat, q < H.size → t.heap[q]? = H[q]?) → XC cls s t)
    (hf : ∀ z ∈ locs, free z.base) (hc : cells + 1 ≤ mc) (hs : slots + 6 ≤ ms) :
    W p l e R s m args below meth c H locs cells slots (vx_MQ below Qc XC args s mc ms free) (F0 m pc ls rest) := by
  intro T hT X
  have htr : e.platform.stackTraces = false := (show e.platform.stackTraces = l.stackTraces by rw [X.admits.platform]).trans hl
  have Y := vx_rebase X (R' := { frames := R.frames, locals := R.locals, cells := 1, slots := 6 }) (Nat.le_refl _) (Nat.le_refl _) hRcells hRslots
  obtain ⟨s', hA⟩ : ∃ z, z = (T.setVm s.vm).setFrames (.invoking m args :: below) := ⟨_, rfl⟩
  rw [← hA] at Y
  have hvm : s'.vm = s.vm := by rw [hA]; rfl
  have hhp : s'.heap = H := by rw [hA]; exact hT
  have hW0 : s.WarmedH s'.vm := by rw [hvm]; exact State.WarmedH.refl s
  have hat' : ∀ w ∈ vx_atS own ic cls names, w.before args s' = true := fun w hw => vx_ot_at hW0 hvm.symm (hgood w (List.mem_cons_of_mem _ (List.mem_cons_of_mem _ hw))) (hat w hw)
  have hk' : (Cond.classLink own ik cls).before args s' = true := vx_ot_at hW0 hvm.symm (hgood _ List.mem_cons_self) hk
  have hini' : (Cond.initialized cls).before args s' = true := vx_ot_at hW0 hvm.symm (hgood _ (List.mem_cons_of_mem _ List.mem_cons_self)) hini
  have hU' : vx_Zq Bundle.tN "UNASSIGNED_STACK" Bundle.steD A s' s'.heap := by rw [hhp]; exact vx_Zq.moved hW0.alike (hU.kept hS.2.1)
  have hN' : vx_Zq Bundle.tN "SUPPRESSED_SENTINEL" Bundle.listD A s' s'.heap := by rw [hhp]; exact vx_Zq.moved hW0.alike (hN.kept hS.2.1)
  have h : ∀ w ∈ Bundle.ownAtoms own ic cls names, w.before args s' = true := vx_own hat' (vx_isRefq hU'.1) (vx_isRefq hN'.1) hU'.2.word hN'.2.word
  have hown' : s'.vm.findClass own = some m.cls := by rw [hvm]; exact hown
  have hins : (Cond.instantiable cls 6).before args s' = true := h _ (by simp [Bundle.ownAtoms])
  obtain ⟨vm₁, cX, kX, hfX, hkX, -, -, X₁, st1⟩ := Y.newCold hexec (own := own) (C := cls) (index := ik) (n := 6) hown' hk' hins hini'
    (g := F0 m pc ls rest) rfl (by rw [hb]; exact d0) (Nat.le_refl _) (Nat.le_refl _)
  generalize hT1 : (T.setVm vm₁).pushCell { cls := cX, slots := kX.instanceTypes.map defaultValue, vm := .none } = T1 at X₁ st1
  have hcat : (Value.ref T.heap.size).category = 1 := rfl
  have hcellA : T1.heap[T.heap.size]? = some (freshCell cX kX) := by rw [← hT1]; exact State.heap_pushCell_size _ _
  have d3' : decode c.code (pc + 3) = .ok (.dup, 1) := by rw [hb]; exact d3
  have d4' : decode c.code (pc + 4) = .ok (.ldc_w is, 3) := by rw [hb]; exact d4
  have hstr' : vk_R own is text sa s' := vk_R.warm hW0 hstr
  obtain ⟨U, hsteps, hrun, hend, hW, hsame, ce, hce, hO⟩ := X₁.ctorThrowS hexec htr (own := own) (cls := cls) (names := names) (ic := ic) hown' hcls hnames h (fun x hx => nomatch hx) hfX hkX hcellA (by rw [hhp, hT]; exact Nat.le_refl _) (msg := .ref sa) rfl
    (g := { method := m, pc := pc + 7, locals := ls, stack := .ref sa :: .ref T.heap.size :: .ref T.heap.size :: rest, locked := none }) rfl hsize rfl rfl (rest := rest) rfl
    (by rw [hb]; exact d7) (by rw [hb]; exact d10) hout hRframes (by simp only [List.map_cons, List.sum_cons, hcat]; omega) hlocks
  obtain ⟨f1, f2⟩ := vx_frame hsame
  rw [hhp] at f1 f2
  have hWs : s.WarmedH U.vm := State.WarmedH.trans hW0 hW
  have hcl : s.vm.findClass cls = some ce.cls := by
    have h9 := hO.cls
    rw [hvm] at h9
    exact h9
  have hall : s.sameButNew ({ U with vm := s.vm } : State) locs mc ms := by
    subst hA
    obtain ⟨e1, e2⟩ := hsame
    rw [State.setFrames_setFrames] at e1
    have h2 : (T.setVm s.vm).sameButNew ({ U with vm := s.vm } : State) [] (0 + 1) (0 + 6) := ⟨e1, e2⟩
    have h3 := X.same.trans h2
    rw [List.append_nil] at h3
    exact h3.mono hc hs
  refine ⟨U, ?_, .threw T.heap.size, hrun, hend, Or.inr ⟨T.heap.size, rfl, cls, ce, locs, hx U hWs.alike f1 (fun q hq => f2 q hq (fun z hz => nomatch hz)), hce, hO.vm, hcl, hWs, hall, hf⟩⟩
  refine st1 _ ?_
  show Steps p.tables e below (T1.setTop { method := m, pc := pc + 3, locals := ls, stack := .ref T.heap.size :: rest, locked := none }) _
  jvm_step X₁.here [X₁.here.top, hexec, d3', Value.category]
  exact X₁.ldcStringW hexec (own := own) (text := text) (index := is) (a := sa) hown' hstr'.1 hstr'.2
    (g := { method := m, pc := pc + 4, locals := ls, stack := .ref T.heap.size :: .ref T.heap.size :: rest, locked := none }) rfl d4' _ hsteps
end Ends
section Bodies
variable {l : Launch}
theorem vx_ofW {y : MethodName} {ws ws' : List Cond} {rm : Room} {Pc : Array Value → State → Prop} {Qc : Array Value → State → Outcome → State → Prop} {XC : String → State → State → Prop} {mc ms : Nat} {free : Addr → Prop} {cc : ByteArray} {maxL : Nat} {ret : Option FieldType}
    (hy : plainName y.cls = true) (hw : ws = Cond.code y cc maxL ret :: ws')
    (body : ∀ p e s m args below meth c s₁, BodyLoose p l y (headSpec ws rm) cc maxL ret e s m args below meth c s₁ → c.maxLocals = maxL → (∀ x ∈ c.exceptionTable.toList, False) → Pc args s →
      W p l e (headSpec ws rm).room s m args below meth c s.heap [] 0 0 (vx_MQ below Qc XC args s mc ms free) (entryFrame m args maxL)) : vx_Met l y ws rm Pc Qc XC mc ms free := by
  refine MetFree.of_bodyS (code := cc) (maxLocals := maxL) (ret := ret) hy ?_ ?_
  · intro args s m h hn
    obtain ⟨meth, c, h1, h2, h3, h4, h5, h6, -, -⟩ := Cond.code_spec hn (atoms_spec (ws := ws) h _ (by rw [hw]; exact List.mem_cons_self))
    exact ⟨meth, c, h1, h2, h3, h4, h5, h6⟩
  · intro p e s m args below meth c s₁ B hml hP _
    have hh0 : s₁.heap = s.heap := by rw [B.state]; rfl
    have ht : ∀ x ∈ c.exceptionTable.toList, False := by
      obtain ⟨meth9, c9, h1, h2, -, -, -, -, h7, -⟩ := Cond.code_spec B.named (atoms_spec (ws := ws) B.pre _ (by rw [hw]; exact List.mem_cons_self))
      cases Option.some.inj (h1.symm.trans B.method)
      cases Option.some.inj (h2.symm.trans (Stand.of_body B).code)
      intro x hx
      rw [Array.isEmpty_iff.mp h7] at hx
      cases hx
    obtain ⟨t, a1, o, b1, b2, b3⟩ := body p e s m args below meth c s₁ B hml ht hP s₁ hh0 (Stand.of_body B)
    exact ⟨t, o, a1, b1, b2, b3⟩
/-- the table of a body with handlers -/
theorem vx_table {p : Program} {x y : MethodName} {S : Spec} {cc bytes : ByteArray} {maxL maxL' : Nat} {ret ret' : Option FieldType} {e : Env} {s s₁ : State} {m : MethodId} {args : Array Value} {below : List Frame} {meth : Method} {c : Code} {hh : List (Nat × Nat × Nat × Nat)}
    (B : BodyLoose p l y S cc maxL ret e s m args below meth c s₁) (h : (Cond.codeWith y bytes maxL' ret' hh).before args s = true) : c.exceptionTable.toList = tableOf hh := by
  obtain ⟨m9, meth9, c9, hn9, h1, h2, -, -, h6, -⟩ := Cond.codeWith_spec h
  cases Option.some.inj (hn9.symm.trans B.named)
  cases Option.some.inj (h1.symm.trans B.method)
  cases Option.some.inj (h2.symm.trans (Stand.of_body B).code)
  rw [← h6, table_eq]
end Bodies
end VXA
/-! ===== END ===== -/
/-! ===== BEGIN a static call of a method with an exception table ===== -/
section VXS
variable {p : Program} {l : Launch} {e : Env} {R : Room} {s : State} {m : MethodId} {args : Array Value} {below : List Frame} {meth : Method} {c : Code} {T : State} {H : Heap} {locs : List Loc} {cells slots : Nat}
abbrev vx_CSW (R : Room) (s : State) (args : Array Value) (own : String) (index : Nat) (y : MethodName) (bytes : ByteArray) (maxL : Nat) (ret : Option FieldType) (hh : List (Nat × Nat × Nat × Nat)) (ws : List Cond) (rm : Room) (mc ms n : Nat) : Prop :=
  (rm.cells = mc ∧ rm.slots = ms ∧ rm.frames + 1 ≤ R.frames ∧ 8 + (maxL + 11) + rm.locals ≤ R.locals ∧ (∀ w ∈ ws, ∀ (a' : Array Value) (U : State), s.WarmedH U.vm → w.before a' U = true) ∧ Cond.codeWith y bytes maxL ret hh ∈ ws) ∧
  (Cond.codeWith y bytes maxL ret hh).before args s = true ∧ (Cond.initialized y.cls).before args s = true ∧ (y.cls ≠ "java/lang/invoke/MethodHandle" ∧ y.cls ≠ "java/lang/invoke/VarHandle") ∧
  (∀ sig, parseMethodDescriptor y.desc = some sig → n = sig.parameters.length) ∧ (Cond.methodLink own index y).before args s = true ∧ (Cond.static y).before args s = true
theorem vx_cwSW {own : String} {index maxL mc ms : Nat} {y : MethodName} {bytes : ByteArray} {ret : Option FieldType} {hh : List (Nat × Nat × Nat × Nat)} {Ts ws ws' : List Cond} {rm : Room} (n : Nat) (ht : ∀ w ∈ Ts, w.before args s = true) (hT : GoodIn Ts (va_wsS own index y ws)) (hw : ws = Cond.codeWith y bytes maxL ret hh :: ws') (hrc : rm.cells = mc) (hrs : rm.slots = ms)
    (hd : y.cls ≠ "java/lang/invoke/MethodHandle" ∧ y.cls ≠ "java/lang/invoke/VarHandle" ∧ (parseMethodDescriptor y.desc).map (fun d => d.parameters.length) = some n) (hR : rm.frames + 1 ≤ R.frames ∧ 8 + (maxL + 11) + rm.locals ≤ R.locals) :
    vx_CSW R s args own index y bytes maxL ret hh ws rm mc ms n := by
  have ok : ∀ w ∈ va_wsS own index y ws, w.before args s = true := fun w h => ht w (hT w h).1
  have hG : GoodIn Ts ws := fun w h => hT w (by unfold va_wsS; exact List.mem_append_right _ h)
  have hc : Cond.codeWith y bytes maxL ret hh ∈ ws := by rw [hw]; exact List.mem_cons_self
  refine ⟨⟨hrc, hrs, hR.1, hR.2, pay_in ht hG, hc⟩, ht _ (hG _ hc).1, ok _ (by simp [va_wsS]), ⟨hd.1, hd.2.1⟩, fun sig h => ?_, ok _ (by simp [va_wsS]), ok _ (by simp [va_wsS])⟩
  have h2 := hd.2.2
  rw [h] at h2
  exact (Option.some.inj h2).symm
theorem vx_callSW (X : Stand p l e R s m args below meth c T locs cells slots) (hexec : p.tables.exec = Jvm.exec) {own : String} {index : Nat} {y : MethodName} {bytes : ByteArray} {maxL : Nat} {ret : Option FieldType} {hh : List (Nat × Nat × Nat × Nat)}
    (hown : s.vm.findClass own = some m.cls) (hlink : (Cond.methodLink own index y).before args s = true) (hstat : (Cond.static y).before args s = true) (hinit : (Cond.initialized y.cls).before args s = true)
    (hcode : (Cond.codeWith y bytes maxL ret hh).before args s = true) (hy : y.cls ≠ "java/lang/invoke/MethodHandle" ∧ y.cls ≠ "java/lang/invoke/VarHandle")
    {W9 : Nat} {Pre : Pt → Array Value → Prop} {Post : Pt → Array Value → Option Value → Pt → Prop} (hK : Back l R p e below s args y 3 W9 Pre Post)
    {g : JFrame} (hg : g.method = m) (hsize : g.locals.size = c.maxLocals) {argsL rest : List Value} (hlen : ∀ sig, parseMethodDescriptor y.desc = some sig → argsL.length = sig.parameters.length)
    (hstack : g.stack = argsL.reverse ++ rest) (hW : 2 * g.monitorRoom + (rest.map fun v => v.category).sum ≤ W9) (hdg : decode c.code g.pc = .ok (.invokestatic index, 3))
    (hpre : ∀ vm₁, s.WarmedH vm₁ → Pre ⟨T.setVm vm₁, locs, cells, slots⟩ argsL.toArray) :
    ∃ (v : Option Value) (vm₁ : Vm) (B : Pt), s.WarmedH vm₁ ∧ Stand p l e R s m args below meth c B.U B.locs B.cells B.slots ∧ Post ⟨T.setVm vm₁, locs, cells, slots⟩ argsL.toArray v B ∧
      ∀ target, Steps p.tables e below (B.U.setTop { g with pc := g.pc + 3, stack := v.toList ++ rest }) target → Steps p.tables e below (T.setTop g) target := by
  obtain ⟨mk, methM, cM, hnamed, hmethM, -, -, -, -, -, -, hsigM⟩ := Cond.codeWith_spec hcode
  have hstatic : methM.isStatic = true := Cond.static_spec hnamed hmethM hstat
  obtain ⟨kP, hkP, -⟩ := className_of_methodNamed hnamed
  have hinitP : kP.init = .initialized := Cond.initialized_spec (findClass_of_methodNamed hnamed) hkP hinit
  obtain ⟨vm₁, X₁, hstep₁⟩ := X.invokestatic hexec hown hlink hnamed hmethM hstatic hkP hinitP hy (g := g) hg (argsL := argsL) (rest := rest) (hlen _ hsigM) hstack hdg
  obtain ⟨v, B, X', hpost, hsteps⟩ := hK m meth c ⟨T.setVm vm₁, locs, cells, slots⟩ { g with stack := rest } (.invokestatic index) mk argsL.toArray X₁ hg hsize hdg hW (X₁.named hnamed) (hpre vm₁ X₁.warmed)
  exact ⟨v, vm₁, B, X₁.warmed, X', hpost, fun target h => hstep₁ _ fun acts => by rw [doInvoke_state]; exact hsteps.trans h⟩
theorem vx_runSW {y : MethodName} {bytes cc : ByteArray} {maxL nL mc ms n index : Nat} {ret : Option FieldType} {hh : List (Nat × Nat × Nat × Nat)} {ws : List Cond} {rm : Room} {Pc : Array Value → State → Prop} {Qc : Array Value → State → Outcome → State → Prop} {free : Addr → Prop} {Ts : List Cond} {own : String} {As rest : List Value} {g : JFrame}
    (S : CallFix p m c cc nL s args Ts own) (hM : Met l y ws rm Pc Qc mc ms free) (cw : vx_CSW R s args own index y bytes maxL ret hh ws rm mc ms n) (hp : PreS s H Pc As)
    (hg : g.method = m) (hn : As.length = n) (hsize : g.locals.size = nL) (hstack : g.stack = As.reverse ++ rest) (hW : 2 * g.monitorRoom + (rest.map fun v => v.category).sum ≤ 8) (hdg : decode cc g.pc = .ok (.invokestatic index, 3)) (hf : cells + mc ≤ R.cells ∧ slots + ms ≤ R.slots) :
    va_Run p l e R s m args below meth c H locs cells slots mc ms g rest (Qc As.toArray) (free) := by
  obtain ⟨⟨hrc, hrs, hfr, hlo, hws, hcw⟩, hcode, hini, hy, hlen, hl, hstt⟩ := cw
  have hK : Back l R p e below s args y 3 8 (PreOf R mc ms Pc) (PostOf Qc mc ms free) := va_backW (hh := hh) (bytes := bytes) (maxL := maxL) (ret := ret) hM hp.1 hrc hrs hfr hlo hws hcw (fun a' U hW => word_at hW (Or.inl (by first | rfl | simp [Cond.onTables, Cond.keeps, Cond.steady])) hini)
  obtain ⟨hx, hb, hml, ho, -⟩ := S
  intro T hT X
  obtain ⟨v, vm₁, ⟨U', l2, c2, s2⟩, hW₁, X', ⟨g', mk, t, L, e1, e2, hq, h1, hL, h2, h3⟩, st⟩ := vx_callSW X hx (hh := hh) (bytes := bytes) (maxL := maxL) (ret := ret) ho hl hstt hini hcode hy hK hg (hsize.trans hml.symm) (argsL := As) (rest := rest) (fun sig h => hn.trans (hlen sig h)) hstack hW (by rw [hb]; exact hdg)
    (fun vm₁ hW₁ => ⟨hf.1, hf.2, hp.2 (T.setVm vm₁) hT hW₁⟩)
  dsimp only [Pt.U, Pt.locs, Pt.cells, Pt.slots] at X' e1 e2 h1 h2 h3 st
  subst h1; subst h2; subst h3
  exact ⟨v, (T.setVm vm₁).calling g' mk As.toArray, t, U', L, hT, X', hL, e1, e2, hq, st⟩
/-- not caught here, past rows that name other classes: it goes on to the caller -/
theorem vx_outP {p : Program} {l : Launch} {e : Env} {R : Room} {s : State} {m : MethodId} {args : Array Value} {below : List Frame} {meth : Method} {c : Code} {H : Heap} {locs : List Loc} {cells slots : Nat} {free : Addr → Prop} {ls : Array Slot} {rest : List Value} {Qc : Array Value → State → Outcome → State → Prop} {XC : String → State → State → Prop}
    {pc : Nat} {own E : String} {ce : Cell} {q : Addr} {mc ms : Nat} (hown : s.vm.findClass own = some m.cls) (hlocks : meth.locks = false)
    (hpass : ∀ z ∈ c.exceptionTable.toList, covers z pc = false ∨ (z.catchType ≠ 0 ∧ ∃ nm : String, (Cond.classLink own z.catchType nm).before args s = true ∧ va_Nc E nm s)) (hcell : H[q]? = some ce) (hv : ce.vm = .none) (hcl : s.vm.findClass E = some ce.cls)
    (hx : ∀ t : State, t.heap = H → s.vm.Alike t.vm → XC E s t) (hf : ∀ z ∈ locs, free z.base) (hc : cells ≤ mc) (hs : slots ≤ ms) :
    vx_W p l e R s m args below meth c H locs cells slots (vx_MQ below Qc XC args s mc ms free) (F0 m pc ls rest) q := by
  intro T hT X
  have hpl : e.platform.magicAccessors = ({} : Platform).magicAccessors := by rw [X.admits.platform]
  obtain ⟨vm', hW', X', st⟩ := X.outThrough hlocks q (g := F0 m pc ls rest) rfl rfl rfl (cell := ce) (by rw [hT]; exact hcell) (by rw [hv]; rfl)
    (by obtain ⟨k9, h9, -⟩ := Vm.findClass_spec hcl; exact ⟨k9, h9⟩) (fun z hz => by
      rcases hpass z hz with h | ⟨hz0, nm, hl1, hn1⟩
      · exact Or.inl h
      · obtain ⟨c6, hc6, hcl6⟩ := Cond.classLink_spec hown hl1 e.platform hpl
        obtain ⟨a8, b8, h1, h2, h3⟩ := hn1
        cases Option.some.inj (h1.symm.trans hcl)
        cases Option.some.inj (h2.symm.trans hc6)
        exact Or.inr ⟨hz0, _, hcl6, h3⟩)
  obtain ⟨g₀, hfr⟩ := X'.frames_eq
  have hcell9 : ((T.setVm vm').setFrames (.throwing q :: below)).heap[q]? = some ce := by
    show T.heap[q]? = some ce
    rw [hT]; exact hcell
  have hend : Ended ((T.setVm vm').setFrames (.throwing q :: below)) below (.threw q) := State.frames_setFrames _ (State.cur_lt_of_frames hfr)
  refine ⟨(T.setVm vm').setFrames (.throwing q :: below), ?_, .threw q, X'.here.running, hend, Or.inr ⟨q, rfl, E, ce, locs, hx _ hT (X'.ends _).1.alike, hcell9, hv, hcl, (X'.ends _).1, (X'.ends _).2.mono hc hs, hf⟩⟩
  rw [X.pushThrowing_eq]
  exact st
/-- a thing of a world lies in the heap -/
theorem vx_lt {D : va_G} {cl : List vw_C} {ws : va_W} {H1 : Heap} (h : va_P D cl ws H1) {k : Nat} {q : Nat × va_E} (hk : ws[k]? = some q) : q.1 < H1.size := (h k q hk).lt
end VXS
/-! ===== END ===== -/
/-! ===== BEGIN methods with a table of their own: called by a name, returning or throwing ===== -/
section VXH
/-! vx_backW, vx_callVX, vx_callSX, vx_callVW, vx_runVW, vx_runVX, vx_runSX, vx_ofWH follow the same proofs as their sisters above (Free/Laws.lean, Shelf42/LK1.lean); vx_outP calls Shelf42/NT130.lean (outThrough). -/
section
variable {l : Launch} {R : Room} {p : Program} {e : Env} {below : List Frame} {s : State} {sargs : Array Value} {y : MethodName} {len W9 : Nat}
theorem vx_backW {ws : List Cond} {rm : Room} {Pc : Array Value → State → Prop} {Qc : Array Value → State → Outcome → State → Prop} {XC : String → State → State → Prop} {mc ms : Nat} {free : Addr → Prop} {bytes : ByteArray} {maxL : Nat} {ret : Option FieldType} {hh : List (Nat × Nat × Nat × Nat)}
    (hM : vx_Met l y ws rm Pc Qc XC mc ms free) (hblind : FrameBlind Pc) (hrc : rm.cells = mc) (hrs : rm.slots = ms)
    (hframes : rm.frames + 1 ≤ R.frames) (hlocals : W9 + (maxL + 11) + rm.locals ≤ R.locals)
    (hws : ∀ w ∈ ws, ∀ a' U, s.WarmedH U.vm → w.before a' U = true) (hcode : Cond.codeWith y bytes maxL ret hh ∈ ws) (hinit : ∀ a' U, s.WarmedH U.vm → (Cond.initialized y.cls).before a' U = true) :
    vx_Back l R p e below s sargs y len W9 (PreOf R mc ms Pc) (PostOf Qc mc ms free) (vx_Post XC mc ms free) := by
  intro m meth c A g ig mk a X hg hsize hdg hW hn hp
  have h1 : (headSpec ws rm).pre.before a A.U = true := atoms_intro fun w hw => hws w hw _ _ X.warmed
  have h2 : (Cond.codeWith y bytes maxL ret hh).before a A.U = true := hws _ hcode _ _ X.warmed
  have h3 : (Cond.initialized y.cls).before a A.U = true := hinit _ _ X.warmed
  have h4 : A.cells + (headSpec ws rm).room.cells ≤ R.cells := by rw [show (headSpec ws rm).room.cells = mc from hrc]; exact hp.1
  have h5 : A.slots + (headSpec ws rm).room.slots ≤ R.slots := by rw [show (headSpec ws rm).room.slots = ms from hrs]; exact hp.2.1
  have hPc : Pc a (A.U.calling g mk a) := hblind _ _ _ _ hp.2.2
  obtain ⟨U, Ls, c0, s0⟩ := A
  dsimp only [Pt.U, Pt.locs, Pt.cells, Pt.slots] at h1 h2 h3 h4 h5 X hn hPc ⊢
  obtain ⟨m9, methY, cY, hn9, hmY, hcY, -, hlY, -⟩ := Cond.codeWith_spec h2
  cases Option.some.inj (hn9.symm.trans hn)
  obtain ⟨kY, hkY, -⟩ := className_of_methodNamed hn
  have hinitY : kY.init = .initialized := Cond.initialized_spec (findClass_of_methodNamed hn) hkY h3
  have h : At U g.method c below := by rw [hg]; exact X.here
  have hlocals9 : W9 + (maxL + 11) + (headSpec ws rm).room.locals ≤ R.locals := hlocals
  have happ : (headSpec ws rm).appliesLoose y e.platform (U.calling g mk a) = true :=
    Spec.appliesLoose_calling (g := g) h hdg hn hkY hinitY
      (X.room_calling (g := g) (R' := (headSpec ws rm).room) hsize hmY hcY hframes (by rw [hlY]; omega) h4 h5) h1
  obtain ⟨mid, hmid⟩ := h.above
  have hfr : (U.setTop g).frames = (.java g :: mid) ++ below := by rw [State.frames_setTop' g h.top, hmid]; rfl
  obtain ⟨o, s₂, hsteps, -, hend, hq⟩ := Steps.callFree hM p X.admits X.cas X.clock (acts := []) hfr happ hPc trivial
  have hq' : vx_Q Qc XC mc ms free a (U.calling g mk a) o s₂ := hq
  rw [State.frames_setTop' g h.top] at hend
  obtain ⟨g₀, hg0⟩ := Option.isSome_iff_exists.mp h.top
  obtain ⟨r, hr⟩ := State.topJava?_eq_some.mp hg0
  have hr' : (({ U with heap := s₂.heap, slotsUsed := s₂.slotsUsed } : State).setVm s₂.vm).frames = .java g₀ :: r := hr
  rcases hq' with ⟨hqc, L, hfe, hL⟩ | ⟨q, rfl, E, ce, L, hx, hce, hcv, hcl, hW₂, hsm, hL⟩
  · obtain ⟨⟨v, rfl⟩, hW₂, e2, q2, q3, q4, q5, q6⟩ := id hfe
    have e3 : s₂ = ({ (U.calling g mk a).setFrames s₂.frames with heap := s₂.heap, slotsUsed := s₂.slotsUsed } : State).setVm s₂.vm := by
      have : s₂ = ({ s₂ with vm := (U.calling g mk a).vm } : State).setVm s₂.vm := rfl
      rw [e2] at this
      exact this
    obtain ⟨c₂, i₂, len₂, hc₂, hd₂, hf₂⟩ := hend
    have hW' : U.WarmedH s₂.vm := hW₂
    have hcc : c₂ = c := by
      have h1 : s₂.code? g.method = U.code? g.method := by
        rw [State.code?_eq, State.code?_eq, hW'.alike.method?]
      exact Option.some.inj (hc₂.symm.trans (h1.trans h.code))
    subst hcc
    have hlen : len₂ = len := by rw [hdg] at hd₂; cases hd₂; rfl
    subst hlen
    have hs₂ : s₂ = (({ U with heap := s₂.heap, slotsUsed := s₂.slotsUsed } : State).setVm s₂.vm).setTop { g with pc := g.pc + len₂, stack := v.toList ++ g.stack } := by
      refine e3.trans ?_
      rw [hf₂, State.calling_eq h.top, State.setFrames_setFrames, State.setTop_of_frames _ hr', hr]
      rfl
    have hsame : U.sameButNew ({ U with heap := s₂.heap, slotsUsed := s₂.slotsUsed } : State) L mc ms := by
      refine ⟨?_, q2, q3, q4, q5, q6⟩
      obtain ⟨t, ht, -⟩ := State.frames_cons hr
      show ({ U with heap := s₂.heap, slotsUsed := s₂.slotsUsed } : State) = { U.setFrames U.frames with heap := s₂.heap, slotsUsed := s₂.slotsUsed }
      rw [State.setFrames_self ht]
    subst hg
    refine Or.inl ⟨v, ⟨(({ U with heap := s₂.heap, slotsUsed := s₂.slotsUsed } : State).setVm s₂.vm), Ls ++ L, c0 + mc, s0 + ms⟩,
      ⟨X.admits, X.cas, X.clock, X.frames, X.room, X.hears, X.method, X.code, (X.here.setHeapUsed s₂.heap s₂.slotsUsed).setVm hW'.alike, X.tail, State.WarmedH.trans X.warmed hW', X.limits, X.bytes, X.same.trans (hsame.setVm s.vm)⟩,
      ⟨g, mk, s₂, L, rfl, rfl, hqc, rfl, hL, rfl, rfl⟩, ?_⟩
    show Steps p.tables e below _ ((({ U with heap := s₂.heap, slotsUsed := s₂.slotsUsed } : State).setVm s₂.vm).setTop { g with pc := g.pc + len₂, stack := v.toList ++ g.stack })
    rw [← hs₂]
    exact hsteps
  · obtain ⟨e2, q2, q3, q4, q5, q6⟩ := id hsm
    have e3 : s₂ = ({ (U.calling g mk a).setFrames s₂.frames with heap := s₂.heap, slotsUsed := s₂.slotsUsed } : State).setVm s₂.vm := by
      have : s₂ = ({ s₂ with vm := (U.calling g mk a).vm } : State).setVm s₂.vm := rfl
      rw [e2] at this
      exact this
    have hf₂ : s₂.frames = .throwing q :: .java g :: U.frames.tail := hend
    have hW' : U.WarmedH s₂.vm := hW₂
    have hs₂ : s₂ = ((({ U with heap := s₂.heap, slotsUsed := s₂.slotsUsed } : State).setVm s₂.vm).setTop g).pushFrame (.throwing q) := by
      refine e3.trans ?_
      rw [hf₂, State.calling_eq h.top, State.setFrames_setFrames, State.pushFrame, State.frames_setTop _ hr', State.setTop_of_frames _ hr', State.setFrames_setFrames, hr]
      rfl
    have hsame : U.sameButNew ({ U with heap := s₂.heap, slotsUsed := s₂.slotsUsed } : State) L mc ms := by
      refine ⟨?_, q2, q3, q4, q5, q6⟩
      obtain ⟨t, ht, -⟩ := State.frames_cons hr
      show ({ U with heap := s₂.heap, slotsUsed := s₂.slotsUsed } : State) = { U.setFrames U.frames with heap := s₂.heap, slotsUsed := s₂.slotsUsed }
      rw [State.setFrames_self ht]
    subst hg
    refine Or.inr ⟨q, ⟨(({ U with heap := s₂.heap, slotsUsed := s₂.slotsUsed } : State).setVm s₂.vm), Ls ++ L, c0 + mc, s0 + ms⟩,
      ⟨X.admits, X.cas, X.clock, X.frames, X.room, X.hears, X.method, X.code, (X.here.setHeapUsed s₂.heap s₂.slotsUsed).setVm hW'.alike, X.tail, State.WarmedH.trans X.warmed hW', X.limits, X.bytes, X.same.trans (hsame.setVm s.vm)⟩,
      ⟨g, mk, s₂, L, E, ce, rfl, rfl, hx, hce, hcv, hcl, rfl, hL, rfl, rfl⟩, ?_⟩
    show Steps p.tables e below _ (((({ U with heap := s₂.heap, slotsUsed := s₂.slotsUsed } : State).setVm s₂.vm).setTop g).pushFrame (.throwing q))
    rw [← hs₂]
    exact hsteps
end
variable {p : Program} {l : Launch} {e : Env} {R : Room} {s : State} {m : MethodId} {args : Array Value} {below : List Frame} {meth : Method} {c : Code} {T : State} {H : Heap} {locs : List Loc} {cells slots : Nat}
theorem vx_callVX (X : Stand p l e R s m args below meth c T locs cells slots) (hexec : p.tables.exec = Jvm.exec) {own C : String} {index : Nat} {y : MethodName} {bytes : ByteArray} {maxL : Nat} {ret : Option FieldType} {hh : List (Nat × Nat × Nat × Nat)}
    (hown : s.vm.findClass own = some m.cls) (hlink : (Cond.methodLink own index y).before args s = true) (hinst : (Cond.instanceMethod y).before args s = true) (hsel : (Cond.selects C y y).before args s = true)
    (hcode : (Cond.codeWith y bytes maxL ret hh).before args s = true) (hy : y.cls ≠ "java/lang/invoke/MethodHandle" ∧ y.cls ≠ "java/lang/invoke/VarHandle")
    {W9 : Nat} {Pre : Pt → Array Value → Prop} {Post : Pt → Array Value → Option Value → Pt → Prop} {PostX : Pt → Array Value → Addr → Pt → Prop} (hK : vx_Back l R p e below s args y 3 W9 Pre Post PostX)
    {b : Addr} {cellB : Cell} (hcell : T.heap[b]? = some cellB) (hobj : cellB.vm.isStatics = false) (hcls : s.vm.findClass C = some cellB.cls)
    {g : JFrame} (hg : g.method = m) (hsize : g.locals.size = c.maxLocals) {argsL rest : List Value} (hlen : ∀ sig, parseMethodDescriptor y.desc = some sig → argsL.length = sig.parameters.length)
    (hstack : g.stack = argsL.reverse ++ .ref b :: rest) (hW : 2 * g.monitorRoom + (rest.map fun v => v.category).sum ≤ W9) (hdg : decode c.code g.pc = .ok (.invokevirtual index, 3))
    (hpre : ∀ vm₁, s.WarmedH vm₁ → Pre ⟨T.setVm vm₁, locs, cells, slots⟩ (Value.ref b :: argsL).toArray) :
    (∃ (v : Option Value) (vm₁ : Vm) (B : Pt), s.WarmedH vm₁ ∧ Stand p l e R s m args below meth c B.U B.locs B.cells B.slots ∧ Post ⟨T.setVm vm₁, locs, cells, slots⟩ (Value.ref b :: argsL).toArray v B ∧
      ∀ target, Steps p.tables e below (B.U.setTop { g with pc := g.pc + 3, stack := v.toList ++ rest }) target → Steps p.tables e below (T.setTop g) target) ∨
    (∃ (q : Addr) (vm₁ : Vm) (B : Pt), s.WarmedH vm₁ ∧ Stand p l e R s m args below meth c B.U B.locs B.cells B.slots ∧ PostX ⟨T.setVm vm₁, locs, cells, slots⟩ (Value.ref b :: argsL).toArray q B ∧
      Steps p.tables e below (T.setTop g) ((B.U.setTop { g with stack := rest }).pushFrame (.throwing q))) := by
  obtain ⟨mk, methM, hnamed, hmethM, hstM, habM⟩ := Cond.instanceMethod_spec hinst
  obtain ⟨m8, methM', cM, hn8, hmethM', -, -, -, -, -, -, hsigM⟩ := Cond.codeWith_spec hcode
  cases Option.some.inj (hn8.symm.trans hnamed)
  cases hmethM.symm.trans hmethM'
  obtain ⟨c2, r2, m2, q1, q2, q3, q4, kP, hkP, hkPi⟩ := Cond.selects_spec hsel
  cases hcls.symm.trans q1
  cases (State.methodFound?_of_named hnamed hy).symm.trans q2
  cases hnamed.symm.trans q3
  have hselP : selectMethod e.platform s.vm cellB.cls mk = .method mk := by rw [Launch.admits_selectMethod X.admits]; exact q4
  obtain ⟨vm₁, X₁, hstep₁⟩ := X.invokevirtual hexec hown hlink hnamed hmethM hstM hkP hkPi hy (a := b) (cell := cellB) hcell
    (fun z h => by rw [h] at hobj; cases hobj) hselP hmethM habM hkP hkPi (g := g) hg (argsL := argsL) (rest := rest) (hlen _ hsigM) hstack hdg
  rcases hK m meth c ⟨T.setVm vm₁, locs, cells, slots⟩ { g with stack := rest } (.invokevirtual index) mk (Value.ref b :: argsL).toArray X₁ hg hsize hdg hW (X₁.named hnamed) (hpre vm₁ X₁.warmed) with ⟨v, B, X', hpost, hsteps⟩ | ⟨q, B, X', hpost, hsteps⟩
  · exact Or.inl ⟨v, vm₁, B, X₁.warmed, X', hpost, fun target h => hstep₁ _ fun acts => by rw [doInvoke_state]; exact hsteps.trans h⟩
  · exact Or.inr ⟨q, vm₁, B, X₁.warmed, X', hpost, hstep₁ _ fun acts => by rw [doInvoke_state]; exact hsteps⟩
theorem vx_callSX (X : Stand p l e R s m args below meth c T locs cells slots) (hexec : p.tables.exec = Jvm.exec) {own : String} {index : Nat} {y : MethodName} {bytes : ByteArray} {maxL : Nat} {ret : Option FieldType} {hh : List (Nat × Nat × Nat × Nat)}
    (hown : s.vm.findClass own = some m.cls) (hlink : (Cond.methodLink own index y).before args s = true) (hstat : (Cond.static y).before args s = true) (hinit : (Cond.initialized y.cls).before args s = true)
    (hcode : (Cond.codeWith y bytes maxL ret hh).before args s = true) (hy : y.cls ≠ "java/lang/invoke/MethodHandle" ∧ y.cls ≠ "java/lang/invoke/VarHandle")
    {W9 : Nat} {Pre : Pt → Array Value → Prop} {Post : Pt → Array Value → Option Value → Pt → Prop} {PostX : Pt → Array Value → Addr → Pt → Prop} (hK : vx_Back l R p e below s args y 3 W9 Pre Post PostX)
    {g : JFrame} (hg : g.method = m) (hsize : g.locals.size = c.maxLocals) {argsL rest : List Value} (hlen : ∀ sig, parseMethodDescriptor y.desc = some sig → argsL.length = sig.parameters.length)
    (hstack : g.stack = argsL.reverse ++ rest) (hW : 2 * g.monitorRoom + (rest.map fun v => v.category).sum ≤ W9) (hdg : decode c.code g.pc = .ok (.invokestatic index, 3))
    (hpre : ∀ vm₁, s.WarmedH vm₁ → Pre ⟨T.setVm vm₁, locs, cells, slots⟩ argsL.toArray) :
    (∃ (v : Option Value) (vm₁ : Vm) (B : Pt), s.WarmedH vm₁ ∧ Stand p l e R s m args below meth c B.U B.locs B.cells B.slots ∧ Post ⟨T.setVm vm₁, locs, cells, slots⟩ argsL.toArray v B ∧
      ∀ target, Steps p.tables e below (B.U.setTop { g with pc := g.pc + 3, stack := v.toList ++ rest }) target → Steps p.tables e below (T.setTop g) target) ∨
    (∃ (q : Addr) (vm₁ : Vm) (B : Pt), s.WarmedH vm₁ ∧ Stand p l e R s m args below meth c B.U B.locs B.cells B.slots ∧ PostX ⟨T.setVm vm₁, locs, cells, slots⟩ argsL.toArray q B ∧
      Steps p.tables e below (T.setTop g) ((B.U.setTop { g with stack := rest }).pushFrame (.throwing q))) := by
  obtain ⟨mk, methM, cM, hnamed, hmethM, -, -, -, -, -, -, hsigM⟩ := Cond.codeWith_spec hcode
  have hstatic : methM.isStatic = true := Cond.static_spec hnamed hmethM hstat
  obtain ⟨kP, hkP, -⟩ := className_of_methodNamed hnamed
  have hinitP : kP.init = .initialized := Cond.initialized_spec (findClass_of_methodNamed hnamed) hkP hinit
  obtain ⟨vm₁, X₁, hstep₁⟩ := X.invokestatic hexec hown hlink hnamed hmethM hstatic hkP hinitP hy (g := g) hg (argsL := argsL) (rest := rest) (hlen _ hsigM) hstack hdg
  rcases hK m meth c ⟨T.setVm vm₁, locs, cells, slots⟩ { g with stack := rest } (.invokestatic index) mk argsL.toArray X₁ hg hsize hdg hW (X₁.named hnamed) (hpre vm₁ X₁.warmed) with ⟨v, B, X', hpost, hsteps⟩ | ⟨q, B, X', hpost, hsteps⟩
  · exact Or.inl ⟨v, vm₁, B, X₁.warmed, X', hpost, fun target h => hstep₁ _ fun acts => by rw [doInvoke_state]; exact hsteps.trans h⟩
  · exact Or.inr ⟨q, vm₁, B, X₁.warmed, X', hpost, hstep₁ _ fun acts => by rw [doInvoke_state]; exact hsteps⟩
theorem vx_callVW (X : Stand p l e R s m args below meth c T locs cells slots) (hexec : p.tables.exec = Jvm.exec) {own C : String} {index : Nat} {y : MethodName} {bytes : ByteArray} {maxL : Nat} {ret : Option FieldType} {hh : List (Nat × Nat × Nat × Nat)}
    (hown : s.vm.findClass own = some m.cls) (hlink : (Cond.methodLink own index y).before args s = true) (hinst : (Cond.instanceMethod y).before args s = true) (hsel : (Cond.selects C y y).before args s = true)
    (hcode : (Cond.codeWith y bytes maxL ret hh).before args s = true) (hy : y.cls ≠ "java/lang/invoke/MethodHandle" ∧ y.cls ≠ "java/lang/invoke/VarHandle")
    {W9 : Nat} {Pre : Pt → Array Value → Prop} {Post : Pt → Array Value → Option Value → Pt → Prop} (hK : Back l R p e below s args y 3 W9 Pre Post)
    {b : Addr} {cellB : Cell} (hcell : T.heap[b]? = some cellB) (hobj : cellB.vm.isStatics = false) (hcls : s.vm.findClass C = some cellB.cls)
    {g : JFrame} (hg : g.method = m) (hsize : g.locals.size = c.maxLocals) {argsL rest : List Value} (hlen : ∀ sig, parseMethodDescriptor y.desc = some sig → argsL.length = sig.parameters.length)
    (hstack : g.stack = argsL.reverse ++ .ref b :: rest) (hW : 2 * g.monitorRoom + (rest.map fun v => v.category).sum ≤ W9) (hdg : decode c.code g.pc = .ok (.invokevirtual index, 3))
    (hpre : ∀ vm₁, s.WarmedH vm₁ → Pre ⟨T.setVm vm₁, locs, cells, slots⟩ (Value.ref b :: argsL).toArray) :
    ∃ (v : Option Value) (vm₁ : Vm) (B : Pt), s.WarmedH vm₁ ∧ Stand p l e R s m args below meth c B.U B.locs B.cells B.slots ∧ Post ⟨T.setVm vm₁, locs, cells, slots⟩ (Value.ref b :: argsL).toArray v B ∧
      ∀ target, Steps p.tables e below (B.U.setTop { g with pc := g.pc + 3, stack := v.toList ++ rest }) target → Steps p.tables e below (T.setTop g) target := by
  obtain ⟨mk, methM, hnamed, hmethM, hstM, habM⟩ := Cond.instanceMethod_spec hinst
  obtain ⟨m8, methM', cM, hn8, hmethM', -, -, -, -, -, -, hsigM⟩ := Cond.codeWith_spec hcode
  cases Option.some.inj (hn8.symm.trans hnamed)
  cases hmethM.symm.trans hmethM'
  obtain ⟨c2, r2, m2, q1, q2, q3, q4, kP, hkP, hkPi⟩ := Cond.selects_spec hsel
  cases hcls.symm.trans q1
  cases (State.methodFound?_of_named hnamed hy).symm.trans q2
  cases hnamed.symm.trans q3
  have hselP : selectMethod e.platform s.vm cellB.cls mk = .method mk := by rw [Launch.admits_selectMethod X.admits]; exact q4
  obtain ⟨vm₁, X₁, hstep₁⟩ := X.invokevirtual hexec hown hlink hnamed hmethM hstM hkP hkPi hy (a := b) (cell := cellB) hcell
    (fun z h => by rw [h] at hobj; cases hobj) hselP hmethM habM hkP hkPi (g := g) hg (argsL := argsL) (rest := rest) (hlen _ hsigM) hstack hdg
  obtain ⟨v, B, X', hpost, hsteps⟩ := hK m meth c ⟨T.setVm vm₁, locs, cells, slots⟩ { g with stack := rest } (.invokevirtual index) mk (Value.ref b :: argsL).toArray X₁ hg hsize hdg hW (X₁.named hnamed) (hpre vm₁ X₁.warmed)
  exact ⟨v, vm₁, B, X₁.warmed, X', hpost, fun target h => hstep₁ _ fun acts => by rw [doInvoke_state]; exact hsteps.trans h⟩
abbrev vx_CVW (R : Room) (s : State) (args : Array Value) (own C : String) (index : Nat) (y : MethodName) (bytes : ByteArray) (maxL : Nat) (ret : Option FieldType) (hh : List (Nat × Nat × Nat × Nat)) (ws : List Cond) (rm : Room) (mc ms n : Nat) : Prop :=
  (rm.cells = mc ∧ rm.slots = ms ∧ rm.frames + 1 ≤ R.frames ∧ 8 + (maxL + 11) + rm.locals ≤ R.locals ∧ (∀ w ∈ ws, ∀ (a' : Array Value) (U : State), s.WarmedH U.vm → w.before a' U = true) ∧ Cond.codeWith y bytes maxL ret hh ∈ ws) ∧
  (Cond.codeWith y bytes maxL ret hh).before args s = true ∧ (Cond.initialized y.cls).before args s = true ∧ (y.cls ≠ "java/lang/invoke/MethodHandle" ∧ y.cls ≠ "java/lang/invoke/VarHandle") ∧
  (∀ sig, parseMethodDescriptor y.desc = some sig → n = sig.parameters.length) ∧ (Cond.methodLink own index y).before args s = true ∧ (Cond.instanceMethod y).before args s = true ∧ (Cond.selects C y y).before args s = true
theorem vx_cwVW {own C : String} {index maxL mc ms : Nat} {y : MethodName} {bytes : ByteArray} {ret : Option FieldType} {hh : List (Nat × Nat × Nat × Nat)} {Ts ws ws' : List Cond} {rm : Room} (n : Nat) (ht : ∀ w ∈ Ts, w.before args s = true) (hT : GoodIn Ts (wsV own index C y ws)) (hw : ws = Cond.codeWith y bytes maxL ret hh :: ws') (hrc : rm.cells = mc) (hrs : rm.slots = ms)
    (hd : y.cls = C ∧ y.cls ≠ "java/lang/invoke/MethodHandle" ∧ y.cls ≠ "java/lang/invoke/VarHandle" ∧ (parseMethodDescriptor y.desc).map (fun d => d.parameters.length) = some n) (hR : rm.frames + 1 ≤ R.frames ∧ 8 + (maxL + 11) + rm.locals ≤ R.locals) :
    vx_CVW R s args own C index y bytes maxL ret hh ws rm mc ms n := by
  obtain ⟨hC, hd⟩ := hd
  subst hC
  have ok : ∀ w ∈ wsV own index y.cls y ws, w.before args s = true := fun w h => ht w (hT w h).1
  have hG : GoodIn Ts ws := fun w h => hT w (by unfold wsV; exact List.mem_append_right _ h)
  have hc : Cond.codeWith y bytes maxL ret hh ∈ ws := by rw [hw]; exact List.mem_cons_self
  refine ⟨⟨hrc, hrs, hR.1, hR.2, pay_in ht hG, hc⟩, ht _ (hG _ hc).1, ok _ (by simp [wsV]), ⟨hd.1, hd.2.1⟩, fun sig h => ?_, ok _ (by simp [wsV]), ok _ (by simp [wsV]), ok _ (by simp [wsV])⟩
  have h2 := hd.2.2
  rw [h] at h2
  exact (Option.some.inj h2).symm
theorem vx_runVW {y : MethodName} {bytes cc : ByteArray} {maxL nL mc ms n index : Nat} {ret : Option FieldType} {hh : List (Nat × Nat × Nat × Nat)} {ws : List Cond} {rm : Room} {Pc : Array Value → State → Prop} {Qc : Array Value → State → Outcome → State → Prop} {free : Addr → Prop} {Ts : List Cond} {own C : String} {b : Addr} {As rest : List Value} {g : JFrame}
    (S : CallFix p m c cc nL s args Ts own) (hM : Met l y ws rm Pc Qc mc ms free) (cw : vx_CVW R s args own C index y bytes maxL ret hh ws rm mc ms n) (hp : PreV s H C b Pc As)
    (hg : g.method = m) (hn : As.length = n) (hsize : g.locals.size = nL) (hstack : g.stack = As.reverse ++ .ref b :: rest) (hW : 2 * g.monitorRoom + (rest.map fun v => v.category).sum ≤ 8) (hdg : decode cc g.pc = .ok (.invokevirtual index, 3)) (hf : cells + mc ≤ R.cells ∧ slots + ms ≤ R.slots) :
    va_Run p l e R s m args below meth c H locs cells slots mc ms g rest (Qc (Value.ref b :: As).toArray) free := by
  obtain ⟨⟨hrc, hrs, hfr, hlo, hws, hcw⟩, hcode, hini, hy, hlen, hl, hin, hse⟩ := cw
  have hK : Back l R p e below s args y 3 8 (PreOf R mc ms Pc) (PostOf Qc mc ms free) := va_backW (hh := hh) (bytes := bytes) (maxL := maxL) (ret := ret) hM hp.1 hrc hrs hfr hlo hws hcw (fun a' U hW => word_at hW (Or.inl (by first | rfl | simp [Cond.onTables, Cond.keeps, Cond.steady])) hini)
  obtain ⟨hx, hb, hml, ho, -⟩ := S
  obtain ⟨-, ⟨cellB, hcB, hoB, hclB⟩, hPc⟩ := hp
  intro T hT X
  obtain ⟨v, vm₁, ⟨U', l2, c2, s2⟩, hW₁, X', ⟨g', mk, t, L, e1, e2, hq, h1, hL, h2, h3⟩, st⟩ := vx_callVW X hx (C := C) (hh := hh) (bytes := bytes) (maxL := maxL) (ret := ret) ho hl hin hse hcode hy hK (by rw [hT]; exact hcB) hoB hclB hg (hsize.trans hml.symm) (argsL := As) (rest := rest) (fun sig h => hn.trans (hlen sig h)) hstack hW (by rw [hb]; exact hdg)
    (fun vm₁ hW₁ => ⟨hf.1, hf.2, hPc (T.setVm vm₁) hT hW₁⟩)
  dsimp only [Pt.U, Pt.locs, Pt.cells, Pt.slots] at X' e1 e2 h1 h2 h3 st
  subst h1; subst h2; subst h3
  exact ⟨v, (T.setVm vm₁).calling g' mk (Value.ref b :: As).toArray, t, U', L, hT, X', hL, e1, e2, hq, st⟩
section
variable {y : MethodName} {bytes cc : ByteArray} {maxL nL mc ms n index : Nat} {ret : Option FieldType} {ws : List Cond} {rm : Room} {Pc : Array Value → State → Prop} {Qc : Array Value → State → Outcome → State → Prop} {XC : String → State → State → Prop} {free : Addr → Prop} {Ts : List Cond} {own C : String} {b : Addr} {As rest : List Value} {g : JFrame}
theorem vx_runVX {hh : List (Nat × Nat × Nat × Nat)} (S : CallFix p m c cc nL s args Ts own) (hM : vx_Met l y ws rm Pc Qc XC mc ms free) (cw : vx_CVW R s args own C index y bytes maxL ret hh ws rm mc ms n) (hp : PreV s H C b Pc As)
    (hg : g.method = m) (hn : As.length = n) (hsize : g.locals.size = nL) (hstack : g.stack = As.reverse ++ .ref b :: rest) (hW : 2 * g.monitorRoom + (rest.map fun v => v.category).sum ≤ 8) (hdg : decode cc g.pc = .ok (.invokevirtual index, 3)) (hf : cells + mc ≤ R.cells ∧ slots + ms ≤ R.slots) :
    vx_Run p l e R s m args below meth c H locs cells slots mc ms g rest (Qc (Value.ref b :: As).toArray) XC free := by
  obtain ⟨⟨hrc, hrs, hfr, hlo, hws, hcw⟩, hcode, hini, hy, hlen, hl, hin, hse⟩ := cw
  have hK : vx_Back l R p e below s args y 3 8 (PreOf R mc ms Pc) (PostOf Qc mc ms free) (vx_Post XC mc ms free) := vx_backW (hh := hh) (bytes := bytes) (maxL := maxL) (ret := ret) hM hp.1 hrc hrs hfr hlo hws hcw (fun a' U hW => word_at hW (Or.inl (by first | rfl | simp [Cond.onTables, Cond.keeps, Cond.steady])) hini)
  obtain ⟨hx, hb, hml, ho, -⟩ := S
  obtain ⟨-, ⟨cellB, hcB, hoB, hclB⟩, hPc⟩ := hp
  intro T hT X
  rcases vx_callVX X hx (C := C) (hh := hh) (bytes := bytes) (maxL := maxL) (ret := ret) ho hl hin hse hcode hy hK (by rw [hT]; exact hcB) hoB hclB hg (hsize.trans hml.symm) (argsL := As) (rest := rest) (fun sig h => hn.trans (hlen sig h)) hstack hW (by rw [hb]; exact hdg)
    (fun vm₁ hW₁ => ⟨hf.1, hf.2, hPc (T.setVm vm₁) hT hW₁⟩) with ⟨v, vm₁, ⟨U', l2, c2, s2⟩, hW₁, X', ⟨g', mk, t, L, e1, e2, hq, h1, hL, h2, h3⟩, st⟩ | ⟨q, vm₁, ⟨U', l2, c2, s2⟩, hW₁, X', ⟨g', mk, t, L, E, ce, e1, e2, hq, hce, hcv, hcl, h1, hL, h2, h3⟩, st⟩
  · dsimp only [Pt.U, Pt.locs, Pt.cells, Pt.slots] at X' e1 e2 h1 h2 h3 st
    subst h1; subst h2; subst h3
    exact Or.inl ⟨v, (T.setVm vm₁).calling g' mk (Value.ref b :: As).toArray, t, U', L, hT, X', hL, e1, e2, hq, st⟩
  · dsimp only [Pt.U, Pt.locs, Pt.cells, Pt.slots] at X' e1 e2 h1 h2 h3 st hcl
    subst h1; subst h2; subst h3
    exact Or.inr ⟨q, (T.setVm vm₁).calling g' mk (Value.ref b :: As).toArray, t, U', L, E, ce, hT, X', hL, e1, e2, hq, hce, hcv, vx_cls hW₁ hcl, st⟩
theorem vx_runSX {hh : List (Nat × Nat × Nat × Nat)} (S : CallFix p m c cc nL s args Ts own) (hM : vx_Met l y ws rm Pc Qc XC mc ms free) (cw : vx_CSW R s args own index y bytes maxL ret hh ws rm mc ms n) (hp : PreS s H Pc As)
    (hg : g.method = m) (hn : As.length = n) (hsize : g.locals.size = nL) (hstack : g.stack = As.reverse ++ rest) (hW : 2 * g.monitorRoom + (rest.map fun v => v.category).sum ≤ 8) (hdg : decode cc g.pc = .ok (.invokestatic index, 3)) (hf : cells + mc ≤ R.cells ∧ slots + ms ≤ R.slots) :
    vx_Run p l e R s m args below meth c H locs cells slots mc ms g rest (Qc As.toArray) XC free := by
  obtain ⟨⟨hrc, hrs, hfr, hlo, hws, hcw⟩, hcode, hini, hy, hlen, hl, hstt⟩ := cw
  have hK : vx_Back l R p e below s args y 3 8 (PreOf R mc ms Pc) (PostOf Qc mc ms free) (vx_Post XC mc ms free) := vx_backW (hh := hh) (bytes := bytes) (maxL := maxL) (ret := ret) hM hp.1 hrc hrs hfr hlo hws hcw (fun a' U hW => word_at hW (Or.inl (by first | rfl | simp [Cond.onTables, Cond.keeps, Cond.steady])) hini)
  obtain ⟨hx, hb, hml, ho, -⟩ := S
  intro T hT X
  rcases vx_callSX X hx (hh := hh) (bytes := bytes) (maxL := maxL) (ret := ret) ho hl hstt hini hcode hy hK hg (hsize.trans hml.symm) (argsL := As) (rest := rest) (fun sig h => hn.trans (hlen sig h)) hstack hW (by rw [hb]; exact hdg)
    (fun vm₁ hW₁ => ⟨hf.1, hf.2, hp.2 (T.setVm vm₁) hT hW₁⟩) with ⟨v, vm₁, ⟨U', l2, c2, s2⟩, hW₁, X', ⟨g', mk, t, L, e1, e2, hq, h1, hL, h2, h3⟩, st⟩ | ⟨q, vm₁, ⟨U', l2, c2, s2⟩, hW₁, X', ⟨g', mk, t, L, E, ce, e1, e2, hq, hce, hcv, hcl, h1, hL, h2, h3⟩, st⟩
  · dsimp only [Pt.U, Pt.locs, Pt.cells, Pt.slots] at X' e1 e2 h1 h2 h3 st
    subst h1; subst h2; subst h3
    exact Or.inl ⟨v, (T.setVm vm₁).calling g' mk As.toArray, t, U', L, hT, X', hL, e1, e2, hq, st⟩
  · dsimp only [Pt.U, Pt.locs, Pt.cells, Pt.slots] at X' e1 e2 h1 h2 h3 st hcl
    subst h1; subst h2; subst h3
    exact Or.inr ⟨q, (T.setVm vm₁).calling g' mk As.toArray, t, U', L, E, ce, hT, X', hL, e1, e2, hq, hce, hcv, vx_cls hW₁ hcl, st⟩
end
end VXH
theorem vx_ofWH {l : Launch} {y : MethodName} {ws ws' : List Cond} {rm : Room} {Pc : Array Value → State → Prop} {Qc : Array Value → State → Outcome → State → Prop} {XC : String → State → State → Prop} {mc ms : Nat} {free : Addr → Prop} {cc : ByteArray} {maxL : Nat} {ret : Option FieldType} {hh : List (Nat × Nat × Nat × Nat)}
    (hy : plainName y.cls = true) (hw : ws = Cond.codeWith y cc maxL ret hh :: ws')
    (body : ∀ p e s m args below meth c s₁, BodyLoose p l y (headSpec ws rm) cc maxL ret e s m args below meth c s₁ → c.maxLocals = maxL → Pc args s →
      W p l e (headSpec ws rm).room s m args below meth c s.heap [] 0 0 (vx_MQ below Qc XC args s mc ms free) (entryFrame m args maxL)) : vx_Met l y ws rm Pc Qc XC mc ms free := by
  refine MetFree.of_bodyS (code := cc) (maxLocals := maxL) (ret := ret) hy ?_ ?_
  · intro args s m h hn
    obtain ⟨m9, meth, c, hn9, h1, h2, h3, h4, -, h5, h6, -⟩ := Cond.codeWith_spec (atoms_spec (ws := ws) h _ (by rw [hw]; exact List.mem_cons_self))
    cases hn.symm.trans hn9
    exact ⟨meth, c, h1, h2, h3, h4, h5, h6⟩
  · intro p e s m args below meth c s₁ B hml hP _
    have hh0 : s₁.heap = s.heap := by rw [B.state]; rfl
    obtain ⟨t, a1, o, b1, b2, b3⟩ := body p e s m args below meth c s₁ B hml hP s₁ hh0 (Stand.of_body B)
    exact ⟨t, o, a1, b1, b2, b3⟩
/-! ===== END ===== -/

def RX0 : String := "Parserpark$Grammar"
def TX0 : u_T := fun k => match k with
  | 0 => ("Parserpark$Grammar", "places", "[LParserpark$Rule;", true)
  | _ => ("Parserpark$Grammar", "added", "I", false)
def tyX0 : Nat → FieldType := fun k => match k with
  | 0 => .array (.object "Parserpark$Rule")
  | _ => .int
abbrev wsX00 : List Cond := u_ws RX0 TX0 2
theorem nmX0 : ∀ a, a < 2 → ∀ b, b < 2 → a ≠ b → (TX0 a).2.1 ≠ (TX0 b).2.1 := by decide +kernel
theorem tyX0_ok : ∀ k, k < 2 → parseFieldDescriptor (TX0 k).2.2.1 = some (tyX0 k) := by decide +kernel
abbrev cX0_init : ByteArray := prog_2_method_1_code
def yX0_init : MethodName := ⟨RX0, "<init>", "()V"⟩
abbrev cX0_hasRoom : ByteArray := prog_2_method_2_code
def yX0_hasRoom : MethodName := ⟨RX0, "hasRoom", "()Z"⟩
abbrev cX0_put : ByteArray := prog_2_method_3_code
def yX0_put : MethodName := ⟨RX0, "put", "(LParserpark$Rule;)V"⟩
abbrev cX0_liveRule : ByteArray := prog_2_method_4_code
def yX0_liveRule : MethodName := ⟨RX0, "liveRule", "(I)LParserpark$Rule;"⟩
abbrev cX0_countLive : ByteArray := prog_2_method_5_code
def yX0_countLive : MethodName := ⟨RX0, "countLive", "()I"⟩
abbrev cX0_chosenRule : ByteArray := prog_2_method_6_code
def yX0_chosenRule : MethodName := ⟨RX0, "chosenRule", "(LParserpark$Spans;III)LParserpark$Rule;"⟩
def RX1 : String := "Parserpark$Layout"
def TX1 : u_T := fun k => match k with
  | 0 => ("Parserpark$Layout", "ruleNumbers", "[I", true)
  | 1 => ("Parserpark$Layout", "colours", "[I", true)
  | 2 => ("Parserpark$Layout", "gaps", "[I", true)
  | 3 => ("Parserpark$Layout", "waitingSymbols", "[I", true)
  | 4 => ("Parserpark$Layout", "waitingFroms", "[I", true)
  | 5 => ("Parserpark$Layout", "waitingTos", "[I", true)
  | 6 => ("Parserpark$Layout", "waitingLevels", "[I", true)
  | 7 => ("Parserpark$Layout", "waiting", "I", false)
  | 8 => ("Parserpark$Layout", "ruleCount", "I", false)
  | 9 => ("Parserpark$Layout", "deepest", "I", false)
  | _ => ("Parserpark$Layout", "letterCount", "I", false)
def tyX1 : Nat → FieldType := fun k => match k with
  | 0 => .array .int
  | 1 => .array .int
  | 2 => .array .int
  | 3 => .array .int
  | 4 => .array .int
  | 5 => .array .int
  | 6 => .array .int
  | 7 => .int
  | 8 => .int
  | 9 => .int
  | _ => .int
abbrev wsX10 : List Cond := u_ws RX1 TX1 11
theorem nmX1 : ∀ a, a < 11 → ∀ b, b < 11 → a ≠ b → (TX1 a).2.1 ≠ (TX1 b).2.1 := by decide +kernel
theorem tyX1_ok : ∀ k, k < 11 → parseFieldDescriptor (TX1 k).2.2.1 = some (tyX1 k) := by decide +kernel
abbrev cX1_init : ByteArray := prog_3_method_1_code
def yX1_init : MethodName := ⟨RX1, "<init>", "()V"⟩
abbrev cX1_lay : ByteArray := prog_3_method_2_code
def yX1_lay : MethodName := ⟨RX1, "lay", "(LParserpark$Grammar;LParserpark$Spans;)V"⟩
abbrev cX1_clear : ByteArray := prog_3_method_3_code
def yX1_clear : MethodName := ⟨RX1, "clear", "()V"⟩
abbrev cX1_push : ByteArray := prog_3_method_4_code
def yX1_push : MethodName := ⟨RX1, "push", "(IIII)V"⟩
abbrev cX1_layRule : ByteArray := prog_3_method_5_code
def yX1_layRule : MethodName := ⟨RX1, "layRule", "(LParserpark$Rule;II)V"⟩
abbrev cX1_pushParts : ByteArray := prog_3_method_6_code
def yX1_pushParts : MethodName := ⟨RX1, "pushParts", "(LParserpark$Spans;LParserpark$Rule;III)V"⟩
abbrev cX1_setGap : ByteArray := prog_3_method_7_code
def yX1_setGap : MethodName := ⟨RX1, "setGap", "(II)V"⟩
abbrev cX1_ruleNumber : ByteArray := prog_3_method_8_code
def yX1_ruleNumber : MethodName := ⟨RX1, "ruleNumber", "(I)I"⟩
abbrev cX1_colourOf : ByteArray := prog_3_method_9_code
def yX1_colourOf : MethodName := ⟨RX1, "colourOf", "(I)I"⟩
abbrev cX1_countSigns : ByteArray := prog_3_method_10_code
def yX1_countSigns : MethodName := ⟨RX1, "countSigns", "()I"⟩
abbrev cX1_sign : ByteArray := prog_3_method_11_code
def yX1_sign : MethodName := ⟨RX1, "sign", "(LParserpark$Spans;I)C"⟩
def RX2 : String := "Parserpark$Rule"
def TX2 : u_T := fun k => match k with
  | 0 => ("Parserpark$Rule", "number", "I", true)
  | 1 => ("Parserpark$Rule", "left", "I", true)
  | 2 => ("Parserpark$Rule", "first", "I", true)
  | 3 => ("Parserpark$Rule", "second", "I", true)
  | 4 => ("Parserpark$Rule", "third", "I", true)
  | 5 => ("Parserpark$Rule", "rank", "I", false)
  | 6 => ("Parserpark$Rule", "colour", "I", false)
  | 7 => ("Parserpark$Rule", "gap", "I", false)
  | _ => ("Parserpark$Rule", "gone", "Z", false)
def tyX2 : Nat → FieldType := fun k => match k with
  | 0 => .int
  | 1 => .int
  | 2 => .int
  | 3 => .int
  | 4 => .int
  | 5 => .int
  | 6 => .int
  | 7 => .int
  | _ => .boolean
abbrev wsX20 : List Cond := u_ws RX2 TX2 9
theorem nmX2 : ∀ a, a < 9 → ∀ b, b < 9 → a ≠ b → (TX2 a).2.1 ≠ (TX2 b).2.1 := by decide +kernel
theorem tyX2_ok : ∀ k, k < 9 → parseFieldDescriptor (TX2 k).2.2.1 = some (tyX2 k) := by decide +kernel
abbrev cX2_init : ByteArray := prog_4_method_1_code
def yX2_init : MethodName := ⟨RX2, "<init>", "(IIIII)V"⟩
def RX3 : String := "Parserpark$Spans"
def TX3 : u_T := fun k => match k with
  | 0 => ("Parserpark$Spans", "letters", "[I", true)
  | 1 => ("Parserpark$Spans", "numbers", "[I", true)
  | _ => ("Parserpark$Spans", "count", "I", false)
def tyX3 : Nat → FieldType := fun k => match k with
  | 0 => .array .int
  | 1 => .array .int
  | _ => .int
abbrev wsX30 : List Cond := u_ws RX3 TX3 3
theorem nmX3 : ∀ a, a < 3 → ∀ b, b < 3 → a ≠ b → (TX3 a).2.1 ≠ (TX3 b).2.1 := by decide +kernel
theorem tyX3_ok : ∀ k, k < 3 → parseFieldDescriptor (TX3 k).2.2.1 = some (tyX3 k) := by decide +kernel
abbrev cX3_init : ByteArray := prog_5_method_1_code
def yX3_init : MethodName := ⟨RX3, "<init>", "()V"⟩
abbrev cX3_letterOf : ByteArray := prog_5_method_2_code
def yX3_letterOf : MethodName := ⟨RX3, "letterOf", "(I)I"⟩
abbrev cX3_put : ByteArray := prog_5_method_3_code
def yX3_put : MethodName := ⟨RX3, "put", "(II)V"⟩
abbrev cX3_append : ByteArray := prog_5_method_4_code
def yX3_append : MethodName := ⟨RX3, "append", "(I)V"⟩
abbrev cX3_copyLetters : ByteArray := prog_5_method_5_code
def yX3_copyLetters : MethodName := ⟨RX3, "copyLetters", "(LParserpark$Spans;)V"⟩
abbrev cX3_startRow : ByteArray := prog_5_method_6_code
def yX3_startRow : MethodName := ⟨RX3, "startRow", "(I)V"⟩
abbrev cX3_nextRow : ByteArray := prog_5_method_7_code
def yX3_nextRow : MethodName := ⟨RX3, "nextRow", "(I)Z"⟩
abbrev cX3_hasLettersOf : ByteArray := prog_5_method_8_code
def yX3_hasLettersOf : MethodName := ⟨RX3, "hasLettersOf", "(LParserpark$Rule;)Z"⟩
abbrev cX3_hasIfLetter : ByteArray := prog_5_method_9_code
def yX3_hasIfLetter : MethodName := ⟨RX3, "hasIfLetter", "(I)Z"⟩
abbrev cX3_findAll : ByteArray := prog_5_method_10_code
def yX3_findAll : MethodName := ⟨RX3, "findAll", "(LParserpark$Grammar;)I"⟩
abbrev cX3_findHaving : ByteArray := prog_5_method_11_code
def yX3_findHaving : MethodName := ⟨RX3, "findHaving", "(LParserpark$Grammar;I)I"⟩
abbrev cX3_findSpan : ByteArray := prog_5_method_12_code
def yX3_findSpan : MethodName := ⟨RX3, "findSpan", "(LParserpark$Grammar;II)V"⟩
abbrev cX3_treesOfAll : ByteArray := prog_5_method_13_code
def yX3_treesOfAll : MethodName := ⟨RX3, "treesOfAll", "()I"⟩
abbrev cX3_treesOf : ByteArray := prog_5_method_14_code
def yX3_treesOf : MethodName := ⟨RX3, "treesOf", "(III)I"⟩
abbrev cX3_treesByRule : ByteArray := prog_5_method_15_code
def yX3_treesByRule : MethodName := ⟨RX3, "treesByRule", "(LParserpark$Rule;II)I"⟩
abbrev cX3_splitOf : ByteArray := prog_5_method_16_code
def yX3_splitOf : MethodName := ⟨RX3, "splitOf", "(LParserpark$Rule;II)I"⟩
abbrev cX3_hasNumbersOf : ByteArray := prog_5_method_17_code
def yX3_hasNumbersOf : MethodName := ⟨RX3, "hasNumbersOf", "(LParserpark$Spans;)Z"⟩
def RX4 : String := "Parserpark$Text"
def TX4 : u_T := fun k => match k with
  | 0 => ("Parserpark$Text", "spans", "LParserpark$Spans;", true)
  | 1 => ("Parserpark$Text", "accepted", "[I", true)
  | _ => ("Parserpark$Text", "acceptedCount", "I", false)
def tyX4 : Nat → FieldType := fun k => match k with
  | 0 => .object "Parserpark$Spans"
  | 1 => .array .int
  | _ => .int
abbrev wsX40 : List Cond := u_ws RX4 TX4 3
theorem nmX4 : ∀ a, a < 3 → ∀ b, b < 3 → a ≠ b → (TX4 a).2.1 ≠ (TX4 b).2.1 := by decide +kernel
theorem tyX4_ok : ∀ k, k < 3 → parseFieldDescriptor (TX4 k).2.2.1 = some (tyX4 k) := by decide +kernel
abbrev cX4_init : ByteArray := prog_6_method_1_code
def yX4_init : MethodName := ⟨RX4, "<init>", "()V"⟩
abbrev cX4_keep : ByteArray := prog_6_method_2_code
def yX4_keep : MethodName := ⟨RX4, "keep", "(LParserpark$Layout;)V"⟩
abbrev cX4_hasAccepted : ByteArray := prog_6_method_3_code
def yX4_hasAccepted : MethodName := ⟨RX4, "hasAccepted", "(LParserpark$Layout;)Z"⟩
def RX5 : String := "Parserpark$Trial"
def TX5 : u_T := fun k => match k with
  | _ => ("Parserpark$Trial", "known", "[I", true)
def tyX5 : Nat → FieldType := fun k => match k with
  | _ => .array .int
abbrev wsX50 : List Cond := u_ws RX5 TX5 1
theorem nmX5 : ∀ a, a < 1 → ∀ b, b < 1 → a ≠ b → (TX5 a).2.1 ≠ (TX5 b).2.1 := by decide +kernel
theorem tyX5_ok : ∀ k, k < 1 → parseFieldDescriptor (TX5 k).2.2.1 = some (tyX5 k) := by decide +kernel
abbrev cX5_init : ByteArray := prog_7_method_1_code
def yX5_init : MethodName := ⟨RX5, "<init>", "()V"⟩
abbrev cX5_treesOfAll : ByteArray := prog_7_method_2_code
def yX5_treesOfAll : MethodName := ⟨RX5, "treesOfAll", "(LParserpark$Grammar;LParserpark$Spans;)I"⟩
abbrev cX5_tryName : ByteArray := prog_7_method_3_code
def yX5_tryName : MethodName := ⟨RX5, "tryName", "(LParserpark$Grammar;LParserpark$Spans;IIII)I"⟩
abbrev cX5_tryRule : ByteArray := prog_7_method_4_code
def yX5_tryRule : MethodName := ⟨RX5, "tryRule", "(LParserpark$Grammar;LParserpark$Spans;LParserpark$Rule;III)I"⟩
abbrev cX5_tryBehindFirst : ByteArray := prog_7_method_5_code
def yX5_tryBehindFirst : MethodName := ⟨RX5, "tryBehindFirst", "(LParserpark$Grammar;LParserpark$Spans;LParserpark$Rule;III)I"⟩
abbrev cX5_tryPart : ByteArray := prog_7_method_6_code
def yX5_tryPart : MethodName := ⟨RX5, "tryPart", "(LParserpark$Grammar;LParserpark$Spans;IIII)I"⟩
def RX6 : String := "Parserpark"
def TX6 : u_T := fun k => match k with
  | 0 => ("Parserpark", "grammar", "LParserpark$Grammar;", true)
  | 1 => ("Parserpark", "texts", "[LParserpark$Text;", true)
  | 2 => ("Parserpark", "scratch", "LParserpark$Spans;", true)
  | 3 => ("Parserpark", "layout", "LParserpark$Layout;", true)
  | 4 => ("Parserpark", "trial", "LParserpark$Trial;", true)
  | 5 => ("Parserpark", "textCount", "I", false)
  | 6 => ("Parserpark", "releases", "I", false)
  | _ => ("Parserpark", "found", "J", false)
def tyX6 : Nat → FieldType := fun k => match k with
  | 0 => .object "Parserpark$Grammar"
  | 1 => .array (.object "Parserpark$Text")
  | 2 => .object "Parserpark$Spans"
  | 3 => .object "Parserpark$Layout"
  | 4 => .object "Parserpark$Trial"
  | 5 => .int
  | 6 => .int
  | _ => .long
abbrev wsX60 : List Cond := u_ws RX6 TX6 8
theorem nmX6 : ∀ a, a < 8 → ∀ b, b < 8 → a ≠ b → (TX6 a).2.1 ≠ (TX6 b).2.1 := by decide +kernel
theorem tyX6_ok : ∀ k, k < 8 → parseFieldDescriptor (TX6 k).2.2.1 = some (tyX6 k) := by decide +kernel
abbrev cX6_init : ByteArray := prog_1_method_1_code
def yX6_init : MethodName := ⟨RX6, "<init>", "()V"⟩
abbrev cX6_addRule : ByteArray := prog_1_method_2_code
def yX6_addRule : MethodName := ⟨RX6, "addRule", "(IIII)I"⟩
abbrev cX6_dropRule : ByteArray := prog_1_method_3_code
def yX6_dropRule : MethodName := ⟨RX6, "dropRule", "(I)I"⟩
abbrev cX6_setRank : ByteArray := prog_1_method_4_code
def yX6_setRank : MethodName := ⟨RX6, "setRank", "(II)I"⟩
abbrev cX6_setStyle : ByteArray := prog_1_method_5_code
def yX6_setStyle : MethodName := ⟨RX6, "setStyle", "(III)I"⟩
abbrev cX6_rules : ByteArray := prog_1_method_6_code
def yX6_rules : MethodName := ⟨RX6, "rules", "()I"⟩
abbrev cX6_addText : ByteArray := prog_1_method_7_code
def yX6_addText : MethodName := ⟨RX6, "addText", "(I)I"⟩
abbrev cX6_addLetter : ByteArray := prog_1_method_8_code
def yX6_addLetter : MethodName := ⟨RX6, "addLetter", "(II)I"⟩
abbrev cX6_replace : ByteArray := prog_1_method_9_code
def yX6_replace : MethodName := ⟨RX6, "replace", "(III)I"⟩
abbrev cX6_length : ByteArray := prog_1_method_10_code
def yX6_length : MethodName := ⟨RX6, "length", "(I)I"⟩
abbrev cX6_letterAt : ByteArray := prog_1_method_11_code
def yX6_letterAt : MethodName := ⟨RX6, "letterAt", "(II)I"⟩
abbrev cX6_trees : ByteArray := prog_1_method_12_code
def yX6_trees : MethodName := ⟨RX6, "trees", "(I)I"⟩
abbrev cX6_treesByTrying : ByteArray := prog_1_method_13_code
def yX6_treesByTrying : MethodName := ⟨RX6, "treesByTrying", "(I)I"⟩
abbrev cX6_treesOver : ByteArray := prog_1_method_14_code
def yX6_treesOver : MethodName := ⟨RX6, "treesOver", "(IIII)I"⟩
abbrev cX6_size : ByteArray := prog_1_method_15_code
def yX6_size : MethodName := ⟨RX6, "size", "(I)I"⟩
abbrev cX6_ruleAt : ByteArray := prog_1_method_16_code
def yX6_ruleAt : MethodName := ⟨RX6, "ruleAt", "(II)I"⟩
abbrev cX6_depth : ByteArray := prog_1_method_17_code
def yX6_depth : MethodName := ⟨RX6, "depth", "(I)I"⟩
abbrev cX6_colourAt : ByteArray := prog_1_method_18_code
def yX6_colourAt : MethodName := ⟨RX6, "colourAt", "(II)I"⟩
abbrev cX6_formatted : ByteArray := prog_1_method_19_code
def yX6_formatted : MethodName := ⟨RX6, "formatted", "(I)I"⟩
abbrev cX6_formattedAt : ByteArray := prog_1_method_20_code
def yX6_formattedAt : MethodName := ⟨RX6, "formattedAt", "(II)C"⟩
abbrev cX6_accept : ByteArray := prog_1_method_21_code
def yX6_accept : MethodName := ⟨RX6, "accept", "(I)I"⟩
abbrev cX6_fault : ByteArray := prog_1_method_22_code
def yX6_fault : MethodName := ⟨RX6, "fault", "(I)C"⟩
abbrev cX6_release : ByteArray := prog_1_method_23_code
def yX6_release : MethodName := ⟨RX6, "release", "()I"⟩
abbrev cX6_ambiguous : ByteArray := prog_1_method_24_code
def yX6_ambiguous : MethodName := ⟨RX6, "ambiguous", "(II)I"⟩
abbrev cX6_ambiguousAt : ByteArray := prog_1_method_25_code
def yX6_ambiguousAt : MethodName := ⟨RX6, "ambiguousAt", "(III)I"⟩
abbrev cX6_work : ByteArray := prog_1_method_26_code
def yX6_work : MethodName := ⟨RX6, "work", "()J"⟩
abbrev cX6_cleanShare : ByteArray := prog_1_method_27_code
def yX6_cleanShare : MethodName := ⟨RX6, "cleanShare", "()F"⟩
abbrev cX6_meanTrees : ByteArray := prog_1_method_28_code
def yX6_meanTrees : MethodName := ⟨RX6, "meanTrees", "()D"⟩
abbrev cX6_isSound : ByteArray := prog_1_method_29_code
def yX6_isSound : MethodName := ⟨RX6, "isSound", "()Z"⟩
abbrev cX6_isWithin : ByteArray := prog_1_method_30_code
def yX6_isWithin : MethodName := ⟨RX6, "isWithin", "(III)Z"⟩
abbrev cX6_isLetter : ByteArray := prog_1_method_31_code
def yX6_isLetter : MethodName := ⟨RX6, "isLetter", "(I)Z"⟩
abbrev cX6_isName : ByteArray := prog_1_method_32_code
def yX6_isName : MethodName := ⟨RX6, "isName", "(I)Z"⟩
abbrev cX6_isSymbol : ByteArray := prog_1_method_33_code
def yX6_isSymbol : MethodName := ⟨RX6, "isSymbol", "(I)Z"⟩
abbrev cX6_isRuleForm : ByteArray := prog_1_method_34_code
def yX6_isRuleForm : MethodName := ⟨RX6, "isRuleForm", "(IIII)Z"⟩
abbrev cX6_limited : ByteArray := prog_1_method_35_code
def yX6_limited : MethodName := ⟨RX6, "limited", "(I)I"⟩
abbrev cX6_spot : ByteArray := prog_1_method_36_code
def yX6_spot : MethodName := ⟨RX6, "spot", "(III)I"⟩
abbrev cX6_requireLetter : ByteArray := prog_1_method_37_code
def yX6_requireLetter : MethodName := ⟨RX6, "requireLetter", "(I)V"⟩
abbrev cX6_requirePlace : ByteArray := prog_1_method_38_code
def yX6_requirePlace : MethodName := ⟨RX6, "requirePlace", "(LParserpark$Spans;I)V"⟩
abbrev cX6_existingRule : ByteArray := prog_1_method_39_code
def yX6_existingRule : MethodName := ⟨RX6, "existingRule", "(I)LParserpark$Rule;"⟩
abbrev cX6_existingText : ByteArray := prog_1_method_40_code
def yX6_existingText : MethodName := ⟨RX6, "existingText", "(I)LParserpark$Text;"⟩
abbrev cX6_layOut : ByteArray := prog_1_method_41_code
def yX6_layOut : MethodName := ⟨RX6, "layOut", "(I)V"⟩
abbrev cX6_findTouchedBy : ByteArray := prog_1_method_42_code
def yX6_findTouchedBy : MethodName := ⟨RX6, "findTouchedBy", "(LParserpark$Rule;)I"⟩
abbrev cX6_faultOf : ByteArray := prog_1_method_43_code
def yX6_faultOf : MethodName := ⟨RX6, "faultOf", "(LParserpark$Text;)C"⟩
abbrev cX6_countClean : ByteArray := prog_1_method_44_code
def yX6_countClean : MethodName := ⟨RX6, "countClean", "()I"⟩
abbrev cX6_lengthOfAmbiguousRow : ByteArray := prog_1_method_45_code
def yX6_lengthOfAmbiguousRow : MethodName := ⟨RX6, "lengthOfAmbiguousRow", "(II)I"⟩
abbrev cX6_findAmbiguousRow : ByteArray := prog_1_method_46_code
def yX6_findAmbiguousRow : MethodName := ⟨RX6, "findAmbiguousRow", "(II)Z"⟩
abbrev cX6_isSoundText : ByteArray := prog_1_method_47_code
def yX6_isSoundText : MethodName := ⟨RX6, "isSoundText", "(LParserpark$Spans;)Z"⟩
def RX7 : String := "ParserparkModel"
def TX7 : u_T := fun k => match k with
  | 0 => ("ParserparkModel", "lefts", "[I", true)
  | 1 => ("ParserparkModel", "rights", "[I", true)
  | 2 => ("ParserparkModel", "many", "[I", true)
  | 3 => ("ParserparkModel", "ranks", "[I", true)
  | 4 => ("ParserparkModel", "colours", "[I", true)
  | 5 => ("ParserparkModel", "gaps", "[I", true)
  | 6 => ("ParserparkModel", "isGone", "[Z", true)
  | 7 => ("ParserparkModel", "rules", "I", false)
  | 8 => ("ParserparkModel", "letters", "[I", true)
  | 9 => ("ParserparkModel", "lengths", "[I", true)
  | 10 => ("ParserparkModel", "accepted", "[I", true)
  | 11 => ("ParserparkModel", "acceptedMany", "[I", true)
  | 12 => ("ParserparkModel", "texts", "I", false)
  | 13 => ("ParserparkModel", "work", "J", false)
  | 14 => ("ParserparkModel", "releases", "I", false)
  | 15 => ("ParserparkModel", "row", "[I", true)
  | 16 => ("ParserparkModel", "size", "I", false)
  | 17 => ("ParserparkModel", "counts", "[I", true)
  | 18 => ("ParserparkModel", "tree", "[I", true)
  | 19 => ("ParserparkModel", "treeMany", "I", false)
  | 20 => ("ParserparkModel", "shades", "[I", true)
  | 21 => ("ParserparkModel", "signs", "[C", true)
  | 22 => ("ParserparkModel", "signMany", "I", false)
  | 23 => ("ParserparkModel", "deepest", "I", false)
  | _ => ("ParserparkModel", "thrown", "I", false)
def tyX7 : Nat → FieldType := fun k => match k with
  | 0 => .array .int
  | 1 => .array .int
  | 2 => .array .int
  | 3 => .array .int
  | 4 => .array .int
  | 5 => .array .int
  | 6 => .array .boolean
  | 7 => .int
  | 8 => .array .int
  | 9 => .array .int
  | 10 => .array .int
  | 11 => .array .int
  | 12 => .int
  | 13 => .long
  | 14 => .int
  | 15 => .array .int
  | 16 => .int
  | 17 => .array .int
  | 18 => .array .int
  | 19 => .int
  | 20 => .array .int
  | 21 => .array .char
  | 22 => .int
  | 23 => .int
  | _ => .int
abbrev wsX70 : List Cond := u_ws RX7 TX7 25
theorem nmX7 : ∀ a, a < 25 → ∀ b, b < 25 → a ≠ b → (TX7 a).2.1 ≠ (TX7 b).2.1 := by decide +kernel
theorem tyX7_ok : ∀ k, k < 25 → parseFieldDescriptor (TX7 k).2.2.1 = some (tyX7 k) := by decide +kernel
abbrev cX7_init : ByteArray := prog_9_method_1_code
def yX7_init : MethodName := ⟨RX7, "<init>", "()V"⟩
abbrev cX7_thrown : ByteArray := prog_9_method_2_code
def yX7_thrown : MethodName := ⟨RX7, "thrown", "()I"⟩
abbrev cX7_in : ByteArray := prog_9_method_3_code
def yX7_in : MethodName := ⟨RX7, "in", "(JJJ)Z"⟩
abbrev cX7_isName : ByteArray := prog_9_method_4_code
def yX7_isName : MethodName := ⟨RX7, "isName", "(I)Z"⟩
abbrev cX7_isLetter : ByteArray := prog_9_method_5_code
def yX7_isLetter : MethodName := ⟨RX7, "isLetter", "(I)Z"⟩
abbrev cX7_isSymbol : ByteArray := prog_9_method_6_code
def yX7_isSymbol : MethodName := ⟨RX7, "isSymbol", "(I)Z"⟩
abbrev cX7_held : ByteArray := prog_9_method_7_code
def yX7_held : MethodName := ⟨RX7, "held", "(I)I"⟩
abbrev cX7_part : ByteArray := prog_9_method_8_code
def yX7_part : MethodName := ⟨RX7, "part", "(III)I"⟩
abbrev cX7_twoParts : ByteArray := prog_9_method_9_code
def yX7_twoParts : MethodName := ⟨RX7, "twoParts", "(IIII)I"⟩
abbrev cX7_ways : ByteArray := prog_9_method_10_code
def yX7_ways : MethodName := ⟨RX7, "ways", "(III)I"⟩
abbrev cX7_lays : ByteArray := prog_9_method_11_code
def yX7_lays : MethodName := ⟨RX7, "lays", "()V"⟩
abbrev cX7_laysText : ByteArray := prog_9_method_12_code
def yX7_laysText : MethodName := ⟨RX7, "laysText", "(I)I"⟩
abbrev cX7_chosen : ByteArray := prog_9_method_13_code
def yX7_chosen : MethodName := ⟨RX7, "chosen", "(III)I"⟩
abbrev cX7_sees : ByteArray := prog_9_method_14_code
def yX7_sees : MethodName := ⟨RX7, "sees", "(IIIII)V"⟩
abbrev cX7_blanks : ByteArray := prog_9_method_15_code
def yX7_blanks : MethodName := ⟨RX7, "blanks", "(I)V"⟩
abbrev cX7_cut : ByteArray := prog_9_method_16_code
def yX7_cut : MethodName := ⟨RX7, "cut", "(IIII)I"⟩
abbrev cX7_walks : ByteArray := prog_9_method_17_code
def yX7_walks : MethodName := ⟨RX7, "walks", "(IIIII)V"⟩
abbrev cX7_walksText : ByteArray := prog_9_method_18_code
def yX7_walksText : MethodName := ⟨RX7, "walksText", "(I)I"⟩
abbrev cX7_touched : ByteArray := prog_9_method_19_code
def yX7_touched : MethodName := ⟨RX7, "touched", "(I)I"⟩
abbrev cX7_addRule : ByteArray := prog_9_method_20_code
def yX7_addRule : MethodName := ⟨RX7, "addRule", "(IIII)I"⟩
abbrev cX7_isRule : ByteArray := prog_9_method_21_code
def yX7_isRule : MethodName := ⟨RX7, "isRule", "(I)Z"⟩
abbrev cX7_dropRule : ByteArray := prog_9_method_22_code
def yX7_dropRule : MethodName := ⟨RX7, "dropRule", "(I)I"⟩
abbrev cX7_setRank : ByteArray := prog_9_method_23_code
def yX7_setRank : MethodName := ⟨RX7, "setRank", "(II)I"⟩
abbrev cX7_setStyle : ByteArray := prog_9_method_24_code
def yX7_setStyle : MethodName := ⟨RX7, "setStyle", "(III)I"⟩
abbrev cX7_rules : ByteArray := prog_9_method_25_code
def yX7_rules : MethodName := ⟨RX7, "rules", "()I"⟩
abbrev cX7_addText : ByteArray := prog_9_method_26_code
def yX7_addText : MethodName := ⟨RX7, "addText", "(I)I"⟩
abbrev cX7_isText : ByteArray := prog_9_method_27_code
def yX7_isText : MethodName := ⟨RX7, "isText", "(I)Z"⟩
abbrev cX7_addLetter : ByteArray := prog_9_method_28_code
def yX7_addLetter : MethodName := ⟨RX7, "addLetter", "(II)I"⟩
abbrev cX7_isPlace : ByteArray := prog_9_method_29_code
def yX7_isPlace : MethodName := ⟨RX7, "isPlace", "(II)Z"⟩
abbrev cX7_replace : ByteArray := prog_9_method_30_code
def yX7_replace : MethodName := ⟨RX7, "replace", "(III)I"⟩
abbrev cX7_asks : ByteArray := prog_9_method_31_code
def yX7_asks : MethodName := ⟨RX7, "asks", "(I)Z"⟩
abbrev cX7_length : ByteArray := prog_9_method_32_code
def yX7_length : MethodName := ⟨RX7, "length", "(I)I"⟩
abbrev cX7_letterAt : ByteArray := prog_9_method_33_code
def yX7_letterAt : MethodName := ⟨RX7, "letterAt", "(II)I"⟩
abbrev cX7_trees : ByteArray := prog_9_method_34_code
def yX7_trees : MethodName := ⟨RX7, "trees", "(I)I"⟩
abbrev cX7_treesByTrying : ByteArray := prog_9_method_35_code
def yX7_treesByTrying : MethodName := ⟨RX7, "treesByTrying", "(I)I"⟩
abbrev cX7_treesOver : ByteArray := prog_9_method_36_code
def yX7_treesOver : MethodName := ⟨RX7, "treesOver", "(IIII)I"⟩
abbrev cX7_size : ByteArray := prog_9_method_37_code
def yX7_size : MethodName := ⟨RX7, "size", "(I)I"⟩
abbrev cX7_ruleAt : ByteArray := prog_9_method_38_code
def yX7_ruleAt : MethodName := ⟨RX7, "ruleAt", "(II)I"⟩
abbrev cX7_depth : ByteArray := prog_9_method_39_code
def yX7_depth : MethodName := ⟨RX7, "depth", "(I)I"⟩
abbrev cX7_colourAt : ByteArray := prog_9_method_40_code
def yX7_colourAt : MethodName := ⟨RX7, "colourAt", "(II)I"⟩
abbrev cX7_formatted : ByteArray := prog_9_method_41_code
def yX7_formatted : MethodName := ⟨RX7, "formatted", "(I)I"⟩
abbrev cX7_formattedAt : ByteArray := prog_9_method_42_code
def yX7_formattedAt : MethodName := ⟨RX7, "formattedAt", "(II)C"⟩
abbrev cX7_accept : ByteArray := prog_9_method_43_code
def yX7_accept : MethodName := ⟨RX7, "accept", "(I)I"⟩
abbrev cX7_faultOf : ByteArray := prog_9_method_44_code
def yX7_faultOf : MethodName := ⟨RX7, "faultOf", "(I)C"⟩
abbrev cX7_fault : ByteArray := prog_9_method_45_code
def yX7_fault : MethodName := ⟨RX7, "fault", "(I)C"⟩
abbrev cX7_clean : ByteArray := prog_9_method_46_code
def yX7_clean : MethodName := ⟨RX7, "clean", "()I"⟩
abbrev cX7_release : ByteArray := prog_9_method_47_code
def yX7_release : MethodName := ⟨RX7, "release", "()I"⟩
abbrev cX7_finds : ByteArray := prog_9_method_48_code
def yX7_finds : MethodName := ⟨RX7, "finds", "(II)Z"⟩
abbrev cX7_asksRow : ByteArray := prog_9_method_49_code
def yX7_asksRow : MethodName := ⟨RX7, "asksRow", "(II)Z"⟩
abbrev cX7_ambiguous : ByteArray := prog_9_method_50_code
def yX7_ambiguous : MethodName := ⟨RX7, "ambiguous", "(II)I"⟩
abbrev cX7_ambiguousAt : ByteArray := prog_9_method_51_code
def yX7_ambiguousAt : MethodName := ⟨RX7, "ambiguousAt", "(III)I"⟩
abbrev cX7_work : ByteArray := prog_9_method_52_code
def yX7_work : MethodName := ⟨RX7, "work", "()J"⟩
abbrev cX7_cleanShare : ByteArray := prog_9_method_53_code
def yX7_cleanShare : MethodName := ⟨RX7, "cleanShare", "()F"⟩
abbrev cX7_meanTrees : ByteArray := prog_9_method_54_code
def yX7_meanTrees : MethodName := ⟨RX7, "meanTrees", "()D"⟩
abbrev cX7_isSound : ByteArray := prog_9_method_55_code
def yX7_isSound : MethodName := ⟨RX7, "isSound", "()Z"⟩
def RJx145de : String := "java/io/Serializable"
def TJx145de : u_T := fun k => match k with
  | _ => ("", "", "", false)
def tyJx145de : Nat → FieldType := fun k => match k with
  | _ => .int
abbrev wsJx145de0 : List Cond := u_ws RJx145de TJx145de 0
theorem nmJx145de : ∀ a, a < 0 → ∀ b, b < 0 → a ≠ b → (TJx145de a).2.1 ≠ (TJx145de b).2.1 := by decide +kernel
theorem tyJx145de_ok : ∀ k, k < 0 → parseFieldDescriptor (TJx145de k).2.2.1 = some (tyJx145de k) := by decide +kernel
def RJx00060 : String := "java/lang/ArrayIndexOutOfBoundsException"
def TJx00060 : u_T := fun k => match k with
  | 0 => ("java/lang/Throwable", "backtrace", "Ljava/lang/Object;", false)
  | 1 => ("java/lang/Throwable", "detailMessage", "Ljava/lang/String;", false)
  | 2 => ("java/lang/Throwable", "cause", "Ljava/lang/Throwable;", false)
  | 3 => ("java/lang/Throwable", "stackTrace", "[Ljava/lang/StackTraceElement;", false)
  | 4 => ("java/lang/Throwable", "depth", "I", false)
  | _ => ("java/lang/Throwable", "suppressedExceptions", "Ljava/util/List;", false)
def tyJx00060 : Nat → FieldType := fun k => match k with
  | 0 => .object "java/lang/Object"
  | 1 => .object "java/lang/String"
  | 2 => .object "java/lang/Throwable"
  | 3 => .array (.object "java/lang/StackTraceElement")
  | 4 => .int
  | _ => .object "java/util/List"
abbrev wsJx000600 : List Cond := u_ws RJx00060 TJx00060 6
theorem nmJx00060 : ∀ a, a < 6 → ∀ b, b < 6 → a ≠ b → (TJx00060 a).2.1 ≠ (TJx00060 b).2.1 := by decide +kernel
theorem tyJx00060_ok : ∀ k, k < 6 → parseFieldDescriptor (TJx00060 k).2.2.1 = some (tyJx00060 k) := by decide +kernel
abbrev cJx00060_init_a7421 : ByteArray := prog_12_method_2_code
def yJx00060_init_a7421 : MethodName := ⟨RJx00060, "<init>", "(Ljava/lang/String;)V"⟩
def RJ9 : String := "java/lang/Math"
def TJ9 : u_T := fun k => match k with
  | _ => ("", "", "", false)
def tyJ9 : Nat → FieldType := fun k => match k with
  | _ => .int
abbrev wsJ90 : List Cond := u_ws RJ9 TJ9 0
theorem nmJ9 : ∀ a, a < 0 → ∀ b, b < 0 → a ≠ b → (TJ9 a).2.1 ≠ (TJ9 b).2.1 := by decide +kernel
theorem tyJ9_ok : ∀ k, k < 0 → parseFieldDescriptor (TJ9 k).2.2.1 = some (tyJ9 k) := by decide +kernel
abbrev cJ9_max_7cf53 : ByteArray := prog_17_method_65_code
def yJ9_max_7cf53 : MethodName := ⟨RJ9, "max", "(II)I"⟩
abbrev cJ9_min_7cf53 : ByteArray := prog_17_method_69_code
def yJ9_min_7cf53 : MethodName := ⟨RJ9, "min", "(II)I"⟩
def RJ0 : String := "java/lang/String"
def TJ0 : u_T := fun k => match k with
  | 0 => ("java/lang/String", "value", "[B", true)
  | _ => ("java/lang/String", "coder", "B", true)
def tyJ0 : Nat → FieldType := fun k => match k with
  | 0 => .array .byte
  | _ => .byte
abbrev wsJ00 : List Cond := u_ws RJ0 TJ0 2
theorem nmJ0 : ∀ a, a < 2 → ∀ b, b < 2 → a ≠ b → (TJ0 a).2.1 ≠ (TJ0 b).2.1 := by decide +kernel
theorem tyJ0_ok : ∀ k, k < 2 → parseFieldDescriptor (TJ0 k).2.2.1 = some (tyJ0 k) := by decide +kernel
def RJ7 : String := "java/util/Arrays"
def TJ7 : u_T := fun k => match k with
  | _ => ("", "", "", false)
def tyJ7 : Nat → FieldType := fun k => match k with
  | _ => .int
abbrev wsJ70 : List Cond := u_ws RJ7 TJ7 0
theorem nmJ7 : ∀ a, a < 0 → ∀ b, b < 0 → a ≠ b → (TJ7 a).2.1 ≠ (TJ7 b).2.1 := by decide +kernel
theorem tyJ7_ok : ∀ k, k < 0 → parseFieldDescriptor (TJ7 k).2.2.1 = some (tyJ7 k) := by decide +kernel
abbrev cJ7_fill_53178 : ByteArray := prog_22_method_103_code
def yJ7_fill_53178 : MethodName := ⟨RJ7, "fill", "([II)V"⟩
def RL : String := "ParserparkLaw"
abbrev cL_addRule : ByteArray := method_3_code
def yL_addRule : MethodName := ⟨RL, "addRule", "(LParserpark;IIII[J)I"⟩
abbrev cL_dropRule : ByteArray := method_4_code
def yL_dropRule : MethodName := ⟨RL, "dropRule", "(LParserpark;I[J)I"⟩
abbrev cL_setRank : ByteArray := method_5_code
def yL_setRank : MethodName := ⟨RL, "setRank", "(LParserpark;II[J)I"⟩
abbrev cL_setStyle : ByteArray := method_6_code
def yL_setStyle : MethodName := ⟨RL, "setStyle", "(LParserpark;III[J)I"⟩
abbrev cL_addText : ByteArray := method_7_code
def yL_addText : MethodName := ⟨RL, "addText", "(LParserpark;I[J)I"⟩
abbrev cL_addLetter : ByteArray := method_8_code
def yL_addLetter : MethodName := ⟨RL, "addLetter", "(LParserpark;II[J)I"⟩
abbrev cL_replace : ByteArray := method_9_code
def yL_replace : MethodName := ⟨RL, "replace", "(LParserpark;III[J)I"⟩
abbrev cL_length : ByteArray := method_10_code
def yL_length : MethodName := ⟨RL, "length", "(LParserpark;I[J)I"⟩
abbrev cL_letterAt : ByteArray := method_11_code
def yL_letterAt : MethodName := ⟨RL, "letterAt", "(LParserpark;II[J)I"⟩
abbrev cL_trees : ByteArray := method_12_code
def yL_trees : MethodName := ⟨RL, "trees", "(LParserpark;I[J)I"⟩
abbrev cL_treesByTrying : ByteArray := method_13_code
def yL_treesByTrying : MethodName := ⟨RL, "treesByTrying", "(LParserpark;I[J)I"⟩
abbrev cL_treesOver : ByteArray := method_14_code
def yL_treesOver : MethodName := ⟨RL, "treesOver", "(LParserpark;IIII[J)I"⟩
abbrev cL_size : ByteArray := method_15_code
def yL_size : MethodName := ⟨RL, "size", "(LParserpark;I[J)I"⟩
abbrev cL_ruleAt : ByteArray := method_16_code
def yL_ruleAt : MethodName := ⟨RL, "ruleAt", "(LParserpark;II[J)I"⟩
abbrev cL_depth : ByteArray := method_17_code
def yL_depth : MethodName := ⟨RL, "depth", "(LParserpark;I[J)I"⟩
abbrev cL_colourAt : ByteArray := method_18_code
def yL_colourAt : MethodName := ⟨RL, "colourAt", "(LParserpark;II[J)I"⟩
abbrev cL_formatted : ByteArray := method_19_code
def yL_formatted : MethodName := ⟨RL, "formatted", "(LParserpark;I[J)I"⟩
abbrev cL_formattedAt : ByteArray := method_20_code
def yL_formattedAt : MethodName := ⟨RL, "formattedAt", "(LParserpark;II[J)I"⟩
abbrev cL_accept : ByteArray := method_21_code
def yL_accept : MethodName := ⟨RL, "accept", "(LParserpark;I[J)I"⟩
abbrev cL_fault : ByteArray := method_22_code
def yL_fault : MethodName := ⟨RL, "fault", "(LParserpark;I[J)I"⟩
abbrev cL_release : ByteArray := method_23_code
def yL_release : MethodName := ⟨RL, "release", "(LParserpark;[J)I"⟩
abbrev cL_ambiguous : ByteArray := method_24_code
def yL_ambiguous : MethodName := ⟨RL, "ambiguous", "(LParserpark;II[J)I"⟩
abbrev cL_ambiguousAt : ByteArray := method_25_code
def yL_ambiguousAt : MethodName := ⟨RL, "ambiguousAt", "(LParserpark;III[J)I"⟩
abbrev cL_cleanShare : ByteArray := method_26_code
def yL_cleanShare : MethodName := ⟨RL, "cleanShare", "(LParserpark;[D)I"⟩
abbrev cL_meanTrees : ByteArray := method_27_code
def yL_meanTrees : MethodName := ⟨RL, "meanTrees", "(LParserpark;[D)I"⟩
abbrev cL_law : ByteArray := code
def yL_law : MethodName := ⟨RL, "law", "([I)Z"⟩
abbrev vwCl : List vw_C := [(RJ0, TJ0, 2), (RJx00060, TJx00060, 6), (RX0, TX0, 2), (RX1, TX1, 11), (RX2, TX2, 9), (RX3, TX3, 3), (RX4, TX4, 3), (RX5, TX5, 1), (RX6, TX6, 8), (RX7, TX7, 25)]
end
section
def kAL : List Cond := lw_tbl.filter goodWord
def kSP : Cond → Bool := fun w => match w with | .methodLinkNest .. => true | .declares _ => true | .castable .. => true | _ => false
def kBL : List Cond := lw_tbl.filter kSP
theorem kAL_tbl : ∀ w ∈ kAL, w ∈ lw_tbl := fun _ h => (List.mem_filter.mp h).1
theorem kAL_good : ∀ w ∈ kAL, (w.onTables && w.keeps) = true ∨ ∃ ty, w = .arrayClass ty := fun _ h => good_of_word (List.mem_filter.mp h).2
theorem kgood (ws : List Cond) (h : ∀ w ∈ ws, w ∈ kAL) : GoodIn kAL ws := fun w hw => ⟨h w hw, kAL_good w (h w hw)⟩
theorem kin_t1 : ∀ w ∈ tables_1_1, w ∈ lw_tbl := fun _ h => List.mem_append_right _ (List.mem_append_left _ h)
theorem kin_t2 : ∀ w ∈ tables_1_2, w ∈ lw_tbl := fun _ h => List.mem_append_right _ (List.mem_append_right _ (List.mem_append_left _ h))
theorem kin_t3 : ∀ w ∈ tables_1_3, w ∈ lw_tbl := fun _ h => List.mem_append_right _ (List.mem_append_right _ (List.mem_append_right _ (List.mem_append_left _ h)))
theorem kin_t4 : ∀ w ∈ tables_1_4, w ∈ lw_tbl := fun _ h => List.mem_append_right _ (List.mem_append_right _ (List.mem_append_right _ (List.mem_append_right _ (List.mem_append_left _ h))))
theorem kin_t5 : ∀ w ∈ tables_1_5, w ∈ lw_tbl := fun _ h => List.mem_append_right _ (List.mem_append_right _ (List.mem_append_right _ (List.mem_append_right _ (List.mem_append_right _ h))))
theorem kq_1_0 : Cond.initialized "ParserparkLaw" ∈ kAL := List.mem_filter.mpr ⟨kin_t1 _ (List.mem_of_getElem? (i := 0) rfl), rfl⟩
theorem kq_1_1 : Cond.initialized "Parserpark" ∈ kAL := List.mem_filter.mpr ⟨kin_t1 _ (List.mem_of_getElem? (i := 1) rfl), rfl⟩
theorem kq_1_2 : Cond.initialized "Parserpark$Grammar" ∈ kAL := List.mem_filter.mpr ⟨kin_t1 _ (List.mem_of_getElem? (i := 2) rfl), rfl⟩
theorem kq_1_3 : Cond.initialized "Parserpark$Spans" ∈ kAL := List.mem_filter.mpr ⟨kin_t1 _ (List.mem_of_getElem? (i := 3) rfl), rfl⟩
theorem kq_1_4 : Cond.initialized "Parserpark$Layout" ∈ kAL := List.mem_filter.mpr ⟨kin_t1 _ (List.mem_of_getElem? (i := 4) rfl), rfl⟩
theorem kq_1_5 : Cond.initialized "Parserpark$Trial" ∈ kAL := List.mem_filter.mpr ⟨kin_t1 _ (List.mem_of_getElem? (i := 5) rfl), rfl⟩
theorem kq_1_6 : Cond.initialized "ParserparkModel" ∈ kAL := List.mem_filter.mpr ⟨kin_t1 _ (List.mem_of_getElem? (i := 6) rfl), rfl⟩
theorem kq_1_7 : Cond.initialized "java/lang/Throwable" ∈ kAL := List.mem_filter.mpr ⟨kin_t1 _ (List.mem_of_getElem? (i := 7) rfl), rfl⟩
theorem kq_1_8 : Cond.initialized "java/lang/Exception" ∈ kAL := List.mem_filter.mpr ⟨kin_t1 _ (List.mem_of_getElem? (i := 8) rfl), rfl⟩
theorem kq_1_9 : Cond.initialized "java/lang/RuntimeException" ∈ kAL := List.mem_filter.mpr ⟨kin_t1 _ (List.mem_of_getElem? (i := 9) rfl), rfl⟩
theorem kq_1_10 : Cond.initialized "java/lang/IllegalArgumentException" ∈ kAL := List.mem_filter.mpr ⟨kin_t1 _ (List.mem_of_getElem? (i := 10) rfl), rfl⟩
theorem kq_1_11 : Cond.initialized "java/lang/IllegalStateException" ∈ kAL := List.mem_filter.mpr ⟨kin_t1 _ (List.mem_of_getElem? (i := 11) rfl), rfl⟩
theorem kq_1_12 : Cond.initialized "Parserpark$Rule" ∈ kAL := List.mem_filter.mpr ⟨kin_t1 _ (List.mem_of_getElem? (i := 12) rfl), rfl⟩
theorem kq_1_13 : Cond.initialized "java/util/NoSuchElementException" ∈ kAL := List.mem_filter.mpr ⟨kin_t1 _ (List.mem_of_getElem? (i := 13) rfl), rfl⟩
theorem kq_1_14 : Cond.initialized "Parserpark$Text" ∈ kAL := List.mem_filter.mpr ⟨kin_t1 _ (List.mem_of_getElem? (i := 14) rfl), rfl⟩
theorem kq_1_15 : Cond.initialized "java/lang/Math" ∈ kAL := List.mem_filter.mpr ⟨kin_t1 _ (List.mem_of_getElem? (i := 15) rfl), rfl⟩
theorem kq_1_16 : Cond.initialized "java/lang/IndexOutOfBoundsException" ∈ kAL := List.mem_filter.mpr ⟨kin_t1 _ (List.mem_of_getElem? (i := 16) rfl), rfl⟩
theorem kq_1_17 : Cond.initialized "java/lang/ArrayIndexOutOfBoundsException" ∈ kAL := List.mem_filter.mpr ⟨kin_t1 _ (List.mem_of_getElem? (i := 17) rfl), rfl⟩
theorem kq_1_18 : Cond.initialized "java/lang/String" ∈ kAL := List.mem_filter.mpr ⟨kin_t1 _ (List.mem_of_getElem? (i := 18) rfl), rfl⟩
theorem kq_1_19 : Cond.initialized "java/lang/UnsupportedOperationException" ∈ kAL := List.mem_filter.mpr ⟨kin_t1 _ (List.mem_of_getElem? (i := 19) rfl), rfl⟩
theorem kq_1_20 : Cond.initialized "java/util/Arrays" ∈ kAL := List.mem_filter.mpr ⟨kin_t1 _ (List.mem_of_getElem? (i := 20) rfl), rfl⟩
theorem kq_1_21 : Cond.initialized "java/lang/ArithmeticException" ∈ kAL := List.mem_filter.mpr ⟨kin_t1 _ (List.mem_of_getElem? (i := 21) rfl), rfl⟩
theorem kq_1_22 : Cond.classLink "ParserparkLaw" 8 "Parserpark" ∈ kAL := List.mem_filter.mpr ⟨kin_t1 _ (List.mem_of_getElem? (i := 22) rfl), rfl⟩
theorem kq_1_23 : Cond.instantiable "Parserpark" 8 ∈ kAL := List.mem_filter.mpr ⟨kin_t1 _ (List.mem_of_getElem? (i := 23) rfl), rfl⟩
theorem kq_1_24 : Cond.methodLink "ParserparkLaw" 105 yX6_init ∈ kAL := List.mem_filter.mpr ⟨kin_t1 _ (List.mem_of_getElem? (i := 24) rfl), rfl⟩
theorem kq_1_25 : Cond.instanceMethod yX6_init ∈ kAL := List.mem_filter.mpr ⟨kin_t1 _ (List.mem_of_getElem? (i := 25) rfl), rfl⟩
theorem kq_1_26 : Cond.code yX6_init prog_1_method_1_code 1 (none : Option Jvm.ClassFile.FieldType) ∈ kAL := List.mem_filter.mpr ⟨kin_t1 _ (List.mem_of_getElem? (i := 26) rfl), rfl⟩
theorem kq_1_27 : Cond.methodLink "Parserpark" 3 (⟨"java/lang/Object", "<init>", "()V"⟩ : MethodName) ∈ kAL := List.mem_filter.mpr ⟨kin_t1 _ (List.mem_of_getElem? (i := 27) rfl), rfl⟩
theorem kq_1_28 : Cond.instanceMethod (⟨"java/lang/Object", "<init>", "()V"⟩ : MethodName) ∈ kAL := List.mem_filter.mpr ⟨kin_t1 _ (List.mem_of_getElem? (i := 28) rfl), rfl⟩
theorem kq_1_29 : Cond.code (⟨"java/lang/Object", "<init>", "()V"⟩ : MethodName) object_method_1_code 1 (none : Option Jvm.ClassFile.FieldType) ∈ kAL := List.mem_filter.mpr ⟨kin_t1 _ (List.mem_of_getElem? (i := 29) rfl), rfl⟩
theorem kq_1_30 : Cond.classLink "Parserpark" 9 "Parserpark$Grammar" ∈ kAL := List.mem_filter.mpr ⟨kin_t1 _ (List.mem_of_getElem? (i := 30) rfl), rfl⟩
theorem kq_1_31 : Cond.instantiable "Parserpark$Grammar" 2 ∈ kAL := List.mem_filter.mpr ⟨kin_t1 _ (List.mem_of_getElem? (i := 31) rfl), rfl⟩
theorem kq_1_32 : Cond.methodLinkNest "Parserpark" 11 yX0_init "Parserpark" ∈ kBL := List.mem_filter.mpr ⟨kin_t1 _ (List.mem_of_getElem? (i := 32) rfl), rfl⟩
theorem kq_1_33 : Cond.instanceMethod yX0_init ∈ kAL := List.mem_filter.mpr ⟨kin_t1 _ (List.mem_of_getElem? (i := 33) rfl), rfl⟩
theorem kq_1_34 : Cond.code yX0_init prog_2_method_1_code 1 (none : Option Jvm.ClassFile.FieldType) ∈ kAL := List.mem_filter.mpr ⟨kin_t1 _ (List.mem_of_getElem? (i := 34) rfl), rfl⟩
theorem kq_1_35 : Cond.methodLink "Parserpark$Grammar" 3 (⟨"java/lang/Object", "<init>", "()V"⟩ : MethodName) ∈ kAL := List.mem_filter.mpr ⟨kin_t1 _ (List.mem_of_getElem? (i := 35) rfl), rfl⟩
theorem kq_1_36 : Cond.classLink "Parserpark$Grammar" 9 "Parserpark$Rule" ∈ kAL := List.mem_filter.mpr ⟨kin_t1 _ (List.mem_of_getElem? (i := 36) rfl), rfl⟩
theorem kq_1_37 : Cond.arrayOver (.object "Parserpark$Rule") ∈ lw_tbl := kin_t1 _ (List.mem_of_getElem? (i := 37) rfl)
theorem kq_1_38 : Cond.fieldLink "Parserpark$Grammar" 11 "Parserpark$Grammar" "places" "[LParserpark$Rule;" ∈ kAL := List.mem_filter.mpr ⟨kin_t1 _ (List.mem_of_getElem? (i := 38) rfl), rfl⟩
theorem kq_1_39 : Cond.fieldLink "Parserpark$Grammar" 17 "Parserpark$Grammar" "added" "I" ∈ kAL := List.mem_filter.mpr ⟨kin_t1 _ (List.mem_of_getElem? (i := 39) rfl), rfl⟩
theorem kq_1_40 : Cond.fieldLink "Parserpark" 70 "Parserpark$Grammar" "added" "I" ∈ kAL := List.mem_filter.mpr ⟨kin_t1 _ (List.mem_of_getElem? (i := 40) rfl), rfl⟩
theorem kq_1_41 : Cond.fieldLink "Parserpark$Trial" 35 "Parserpark$Grammar" "added" "I" ∈ kAL := List.mem_filter.mpr ⟨kin_t1 _ (List.mem_of_getElem? (i := 41) rfl), rfl⟩
theorem kq_1_42 : Cond.fieldLink "Parserpark$Spans" 67 "Parserpark$Grammar" "added" "I" ∈ kAL := List.mem_filter.mpr ⟨kin_t1 _ (List.mem_of_getElem? (i := 42) rfl), rfl⟩
theorem kq_1_43 : Cond.laysFinal "Parserpark$Grammar" "Parserpark$Grammar" "places" "[LParserpark$Rule;" ∈ kAL := List.mem_filter.mpr ⟨kin_t1 _ (List.mem_of_getElem? (i := 43) rfl), rfl⟩
theorem kq_1_44 : Cond.soleField "Parserpark$Grammar" "places" ∈ lw_tbl := kin_t1 _ (List.mem_of_getElem? (i := 44) rfl)
theorem kq_1_45 : Cond.lays "Parserpark$Grammar" "Parserpark$Grammar" "added" "I" ∈ kAL := List.mem_filter.mpr ⟨kin_t1 _ (List.mem_of_getElem? (i := 45) rfl), rfl⟩
theorem kq_1_46 : Cond.soleField "Parserpark$Grammar" "added" ∈ lw_tbl := kin_t1 _ (List.mem_of_getElem? (i := 46) rfl)
theorem kq_1_47 : Cond.superclass "Parserpark$Grammar" "java/lang/Object" ∈ lw_tbl := kin_t1 _ (List.mem_of_getElem? (i := 47) rfl)
theorem kq_1_48 : Cond.classLink "Parserpark" 16 "Parserpark$Text" ∈ kAL := List.mem_filter.mpr ⟨kin_t1 _ (List.mem_of_getElem? (i := 48) rfl), rfl⟩
theorem kq_1_49 : Cond.arrayOver (.object "Parserpark$Text") ∈ lw_tbl := kin_t1 _ (List.mem_of_getElem? (i := 49) rfl)
theorem kq_1_50 : Cond.classLink "Parserpark" 22 "Parserpark$Spans" ∈ kAL := List.mem_filter.mpr ⟨kin_t1 _ (List.mem_of_getElem? (i := 50) rfl), rfl⟩
theorem kq_1_51 : Cond.instantiable "Parserpark$Spans" 3 ∈ kAL := List.mem_filter.mpr ⟨kin_t1 _ (List.mem_of_getElem? (i := 51) rfl), rfl⟩
theorem kq_1_52 : Cond.methodLinkNest "Parserpark" 24 yX3_init "Parserpark" ∈ kBL := List.mem_filter.mpr ⟨kin_t1 _ (List.mem_of_getElem? (i := 52) rfl), rfl⟩
theorem kq_1_53 : Cond.instanceMethod yX3_init ∈ kAL := List.mem_filter.mpr ⟨kin_t1 _ (List.mem_of_getElem? (i := 53) rfl), rfl⟩
theorem kq_1_54 : Cond.code yX3_init prog_5_method_1_code 1 (none : Option Jvm.ClassFile.FieldType) ∈ kAL := List.mem_filter.mpr ⟨kin_t1 _ (List.mem_of_getElem? (i := 54) rfl), rfl⟩
theorem kq_1_55 : Cond.methodLink "Parserpark$Spans" 3 (⟨"java/lang/Object", "<init>", "()V"⟩ : MethodName) ∈ kAL := List.mem_filter.mpr ⟨kin_t1 _ (List.mem_of_getElem? (i := 55) rfl), rfl⟩
theorem kq_1_56 : Cond.fieldLink "Parserpark$Spans" 9 "Parserpark$Spans" "letters" "[I" ∈ kAL := List.mem_filter.mpr ⟨kin_t1 _ (List.mem_of_getElem? (i := 56) rfl), rfl⟩
theorem kq_1_57 : Cond.fieldLink "Parserpark$Spans" 15 "Parserpark$Spans" "numbers" "[I" ∈ kAL := List.mem_filter.mpr ⟨kin_t1 _ (List.mem_of_getElem? (i := 57) rfl), rfl⟩
theorem kq_1_58 : Cond.fieldLink "Parserpark$Spans" 18 "Parserpark$Spans" "count" "I" ∈ kAL := List.mem_filter.mpr ⟨kin_t1 _ (List.mem_of_getElem? (i := 58) rfl), rfl⟩
theorem kq_1_59 : Cond.fieldLink "Parserpark$Trial" 21 "Parserpark$Spans" "count" "I" ∈ kAL := List.mem_filter.mpr ⟨kin_t1 _ (List.mem_of_getElem? (i := 59) rfl), rfl⟩
theorem kq_1_60 : Cond.fieldLink "Parserpark$Layout" 55 "Parserpark$Spans" "count" "I" ∈ kAL := List.mem_filter.mpr ⟨kin_t1 _ (List.mem_of_getElem? (i := 60) rfl), rfl⟩
theorem kq_1_61 : Cond.fieldLink "Parserpark" 131 "Parserpark$Spans" "count" "I" ∈ kAL := List.mem_filter.mpr ⟨kin_t1 _ (List.mem_of_getElem? (i := 61) rfl), rfl⟩
theorem kq_1_62 : Cond.laysFinal "Parserpark$Spans" "Parserpark$Spans" "letters" "[I" ∈ kAL := List.mem_filter.mpr ⟨kin_t1 _ (List.mem_of_getElem? (i := 62) rfl), rfl⟩
theorem kq_1_63 : Cond.soleField "Parserpark$Spans" "letters" ∈ lw_tbl := kin_t1 _ (List.mem_of_getElem? (i := 63) rfl)
theorem kq_1_64 : Cond.laysFinal "Parserpark$Spans" "Parserpark$Spans" "numbers" "[I" ∈ kAL := List.mem_filter.mpr ⟨kin_t1 _ (List.mem_of_getElem? (i := 64) rfl), rfl⟩
theorem kq_1_65 : Cond.soleField "Parserpark$Spans" "numbers" ∈ lw_tbl := kin_t1 _ (List.mem_of_getElem? (i := 65) rfl)
theorem kq_1_66 : Cond.lays "Parserpark$Spans" "Parserpark$Spans" "count" "I" ∈ kAL := List.mem_filter.mpr ⟨kin_t1 _ (List.mem_of_getElem? (i := 66) rfl), rfl⟩
theorem kq_1_67 : Cond.soleField "Parserpark$Spans" "count" ∈ lw_tbl := kin_t1 _ (List.mem_of_getElem? (i := 67) rfl)
theorem kq_1_68 : Cond.superclass "Parserpark$Spans" "java/lang/Object" ∈ lw_tbl := kin_t1 _ (List.mem_of_getElem? (i := 68) rfl)
theorem kq_1_69 : Cond.arrayClass .int ∈ kAL := List.mem_filter.mpr ⟨kin_t1 _ (List.mem_of_getElem? (i := 69) rfl), rfl⟩
theorem kq_1_70 : Cond.classLink "Parserpark" 29 "Parserpark$Layout" ∈ kAL := List.mem_filter.mpr ⟨kin_t1 _ (List.mem_of_getElem? (i := 70) rfl), rfl⟩
theorem kq_1_71 : Cond.instantiable "Parserpark$Layout" 11 ∈ kAL := List.mem_filter.mpr ⟨kin_t1 _ (List.mem_of_getElem? (i := 71) rfl), rfl⟩
theorem kq_1_72 : Cond.methodLinkNest "Parserpark" 31 yX1_init "Parserpark" ∈ kBL := List.mem_filter.mpr ⟨kin_t1 _ (List.mem_of_getElem? (i := 72) rfl), rfl⟩
theorem kq_1_73 : Cond.instanceMethod yX1_init ∈ kAL := List.mem_filter.mpr ⟨kin_t1 _ (List.mem_of_getElem? (i := 73) rfl), rfl⟩
theorem kq_1_74 : Cond.code yX1_init prog_3_method_1_code 1 (none : Option Jvm.ClassFile.FieldType) ∈ kAL := List.mem_filter.mpr ⟨kin_t1 _ (List.mem_of_getElem? (i := 74) rfl), rfl⟩
theorem kq_1_75 : Cond.methodLink "Parserpark$Layout" 3 (⟨"java/lang/Object", "<init>", "()V"⟩ : MethodName) ∈ kAL := List.mem_filter.mpr ⟨kin_t1 _ (List.mem_of_getElem? (i := 75) rfl), rfl⟩
theorem kq_1_76 : Cond.fieldLink "Parserpark$Layout" 9 "Parserpark$Layout" "ruleNumbers" "[I" ∈ kAL := List.mem_filter.mpr ⟨kin_t1 _ (List.mem_of_getElem? (i := 76) rfl), rfl⟩
theorem kq_1_77 : Cond.fieldLink "Parserpark$Layout" 15 "Parserpark$Layout" "colours" "[I" ∈ kAL := List.mem_filter.mpr ⟨kin_t1 _ (List.mem_of_getElem? (i := 77) rfl), rfl⟩
theorem kq_1_78 : Cond.fieldLink "Parserpark$Layout" 18 "Parserpark$Layout" "gaps" "[I" ∈ kAL := List.mem_filter.mpr ⟨kin_t1 _ (List.mem_of_getElem? (i := 78) rfl), rfl⟩
theorem kq_1_79 : Cond.fieldLink "Parserpark$Layout" 21 "Parserpark$Layout" "waitingSymbols" "[I" ∈ kAL := List.mem_filter.mpr ⟨kin_t1 _ (List.mem_of_getElem? (i := 79) rfl), rfl⟩
theorem kq_1_80 : Cond.fieldLink "Parserpark$Layout" 24 "Parserpark$Layout" "waitingFroms" "[I" ∈ kAL := List.mem_filter.mpr ⟨kin_t1 _ (List.mem_of_getElem? (i := 80) rfl), rfl⟩
theorem kq_1_81 : Cond.fieldLink "Parserpark$Layout" 27 "Parserpark$Layout" "waitingTos" "[I" ∈ kAL := List.mem_filter.mpr ⟨kin_t1 _ (List.mem_of_getElem? (i := 81) rfl), rfl⟩
theorem kq_1_82 : Cond.fieldLink "Parserpark$Layout" 30 "Parserpark$Layout" "waitingLevels" "[I" ∈ kAL := List.mem_filter.mpr ⟨kin_t1 _ (List.mem_of_getElem? (i := 82) rfl), rfl⟩
theorem kq_1_83 : Cond.fieldLink "Parserpark$Layout" 33 "Parserpark$Layout" "waiting" "I" ∈ kAL := List.mem_filter.mpr ⟨kin_t1 _ (List.mem_of_getElem? (i := 83) rfl), rfl⟩
theorem kq_1_84 : Cond.fieldLink "Parserpark$Layout" 37 "Parserpark$Layout" "ruleCount" "I" ∈ kAL := List.mem_filter.mpr ⟨kin_t1 _ (List.mem_of_getElem? (i := 84) rfl), rfl⟩
theorem kq_1_85 : Cond.fieldLink "Parserpark$Text" 26 "Parserpark$Layout" "ruleCount" "I" ∈ kAL := List.mem_filter.mpr ⟨kin_t1 _ (List.mem_of_getElem? (i := 85) rfl), rfl⟩
theorem kq_1_86 : Cond.fieldLink "Parserpark" 165 "Parserpark$Layout" "ruleCount" "I" ∈ kAL := List.mem_filter.mpr ⟨kin_t1 _ (List.mem_of_getElem? (i := 86) rfl), rfl⟩
theorem kq_1_87 : Cond.fieldLink "Parserpark$Layout" 40 "Parserpark$Layout" "deepest" "I" ∈ kAL := List.mem_filter.mpr ⟨kin_t1 _ (List.mem_of_getElem? (i := 87) rfl), rfl⟩
theorem kq_1_88 : Cond.fieldLink "Parserpark" 174 "Parserpark$Layout" "deepest" "I" ∈ kAL := List.mem_filter.mpr ⟨kin_t1 _ (List.mem_of_getElem? (i := 88) rfl), rfl⟩
theorem kq_1_89 : Cond.fieldLink "Parserpark$Layout" 43 "Parserpark$Layout" "letterCount" "I" ∈ kAL := List.mem_filter.mpr ⟨kin_t1 _ (List.mem_of_getElem? (i := 89) rfl), rfl⟩
theorem kq_1_90 : Cond.fieldLink "Parserpark" 257 "Parserpark$Layout" "letterCount" "I" ∈ kAL := List.mem_filter.mpr ⟨kin_t1 _ (List.mem_of_getElem? (i := 90) rfl), rfl⟩
theorem kq_1_91 : Cond.laysFinal "Parserpark$Layout" "Parserpark$Layout" "ruleNumbers" "[I" ∈ kAL := List.mem_filter.mpr ⟨kin_t1 _ (List.mem_of_getElem? (i := 91) rfl), rfl⟩
theorem kq_1_92 : Cond.soleField "Parserpark$Layout" "ruleNumbers" ∈ lw_tbl := kin_t1 _ (List.mem_of_getElem? (i := 92) rfl)
theorem kq_1_93 : Cond.laysFinal "Parserpark$Layout" "Parserpark$Layout" "colours" "[I" ∈ kAL := List.mem_filter.mpr ⟨kin_t1 _ (List.mem_of_getElem? (i := 93) rfl), rfl⟩
theorem kq_1_94 : Cond.soleField "Parserpark$Layout" "colours" ∈ lw_tbl := kin_t1 _ (List.mem_of_getElem? (i := 94) rfl)
theorem kq_1_95 : Cond.laysFinal "Parserpark$Layout" "Parserpark$Layout" "gaps" "[I" ∈ kAL := List.mem_filter.mpr ⟨kin_t1 _ (List.mem_of_getElem? (i := 95) rfl), rfl⟩
theorem kq_1_96 : Cond.soleField "Parserpark$Layout" "gaps" ∈ lw_tbl := kin_t1 _ (List.mem_of_getElem? (i := 96) rfl)
theorem kq_1_97 : Cond.laysFinal "Parserpark$Layout" "Parserpark$Layout" "waitingSymbols" "[I" ∈ kAL := List.mem_filter.mpr ⟨kin_t1 _ (List.mem_of_getElem? (i := 97) rfl), rfl⟩
theorem kq_1_98 : Cond.soleField "Parserpark$Layout" "waitingSymbols" ∈ lw_tbl := kin_t1 _ (List.mem_of_getElem? (i := 98) rfl)
theorem kq_1_99 : Cond.laysFinal "Parserpark$Layout" "Parserpark$Layout" "waitingFroms" "[I" ∈ kAL := List.mem_filter.mpr ⟨kin_t1 _ (List.mem_of_getElem? (i := 99) rfl), rfl⟩
theorem kq_1_100 : Cond.soleField "Parserpark$Layout" "waitingFroms" ∈ lw_tbl := kin_t1 _ (List.mem_of_getElem? (i := 100) rfl)
theorem kq_1_101 : Cond.laysFinal "Parserpark$Layout" "Parserpark$Layout" "waitingTos" "[I" ∈ kAL := List.mem_filter.mpr ⟨kin_t1 _ (List.mem_of_getElem? (i := 101) rfl), rfl⟩
theorem kq_1_102 : Cond.soleField "Parserpark$Layout" "waitingTos" ∈ lw_tbl := kin_t1 _ (List.mem_of_getElem? (i := 102) rfl)
theorem kq_1_103 : Cond.laysFinal "Parserpark$Layout" "Parserpark$Layout" "waitingLevels" "[I" ∈ kAL := List.mem_filter.mpr ⟨kin_t1 _ (List.mem_of_getElem? (i := 103) rfl), rfl⟩
theorem kq_1_104 : Cond.soleField "Parserpark$Layout" "waitingLevels" ∈ lw_tbl := kin_t1 _ (List.mem_of_getElem? (i := 104) rfl)
theorem kq_1_105 : Cond.lays "Parserpark$Layout" "Parserpark$Layout" "waiting" "I" ∈ kAL := List.mem_filter.mpr ⟨kin_t1 _ (List.mem_of_getElem? (i := 105) rfl), rfl⟩
theorem kq_1_106 : Cond.soleField "Parserpark$Layout" "waiting" ∈ lw_tbl := kin_t1 _ (List.mem_of_getElem? (i := 106) rfl)
theorem kq_1_107 : Cond.lays "Parserpark$Layout" "Parserpark$Layout" "ruleCount" "I" ∈ kAL := List.mem_filter.mpr ⟨kin_t1 _ (List.mem_of_getElem? (i := 107) rfl), rfl⟩
theorem kq_1_108 : Cond.soleField "Parserpark$Layout" "ruleCount" ∈ lw_tbl := kin_t1 _ (List.mem_of_getElem? (i := 108) rfl)
theorem kq_1_109 : Cond.lays "Parserpark$Layout" "Parserpark$Layout" "deepest" "I" ∈ kAL := List.mem_filter.mpr ⟨kin_t1 _ (List.mem_of_getElem? (i := 109) rfl), rfl⟩
theorem kq_1_110 : Cond.soleField "Parserpark$Layout" "deepest" ∈ lw_tbl := kin_t1 _ (List.mem_of_getElem? (i := 110) rfl)
theorem kq_1_111 : Cond.lays "Parserpark$Layout" "Parserpark$Layout" "letterCount" "I" ∈ kAL := List.mem_filter.mpr ⟨kin_t1 _ (List.mem_of_getElem? (i := 111) rfl), rfl⟩
theorem kq_1_112 : Cond.soleField "Parserpark$Layout" "letterCount" ∈ lw_tbl := kin_t1 _ (List.mem_of_getElem? (i := 112) rfl)
theorem kq_1_113 : Cond.superclass "Parserpark$Layout" "java/lang/Object" ∈ lw_tbl := kin_t1 _ (List.mem_of_getElem? (i := 113) rfl)
theorem kq_1_114 : Cond.classLink "Parserpark" 36 "Parserpark$Trial" ∈ kAL := List.mem_filter.mpr ⟨kin_t1 _ (List.mem_of_getElem? (i := 114) rfl), rfl⟩
theorem kq_1_115 : Cond.instantiable "Parserpark$Trial" 1 ∈ kAL := List.mem_filter.mpr ⟨kin_t1 _ (List.mem_of_getElem? (i := 115) rfl), rfl⟩
theorem kq_1_116 : Cond.methodLinkNest "Parserpark" 38 yX5_init "Parserpark" ∈ kBL := List.mem_filter.mpr ⟨kin_t1 _ (List.mem_of_getElem? (i := 116) rfl), rfl⟩
theorem kq_1_117 : Cond.instanceMethod yX5_init ∈ kAL := List.mem_filter.mpr ⟨kin_t1 _ (List.mem_of_getElem? (i := 117) rfl), rfl⟩
theorem kq_1_118 : Cond.code yX5_init prog_7_method_1_code 1 (none : Option Jvm.ClassFile.FieldType) ∈ kAL := List.mem_filter.mpr ⟨kin_t1 _ (List.mem_of_getElem? (i := 118) rfl), rfl⟩
theorem kq_1_119 : Cond.methodLink "Parserpark$Trial" 3 (⟨"java/lang/Object", "<init>", "()V"⟩ : MethodName) ∈ kAL := List.mem_filter.mpr ⟨kin_t1 _ (List.mem_of_getElem? (i := 119) rfl), rfl⟩
theorem kq_1_120 : Cond.fieldLink "Parserpark$Trial" 9 "Parserpark$Trial" "known" "[I" ∈ kAL := List.mem_filter.mpr ⟨kin_t1 _ (List.mem_of_getElem? (i := 120) rfl), rfl⟩
theorem kq_1_121 : Cond.laysFinal "Parserpark$Trial" "Parserpark$Trial" "known" "[I" ∈ kAL := List.mem_filter.mpr ⟨kin_t1 _ (List.mem_of_getElem? (i := 121) rfl), rfl⟩
theorem kq_1_122 : Cond.soleField "Parserpark$Trial" "known" ∈ lw_tbl := kin_t1 _ (List.mem_of_getElem? (i := 122) rfl)
theorem kq_1_123 : Cond.superclass "Parserpark$Trial" "java/lang/Object" ∈ lw_tbl := kin_t1 _ (List.mem_of_getElem? (i := 123) rfl)
theorem kq_1_124 : Cond.fieldLink "Parserpark" 12 "Parserpark" "grammar" "LParserpark$Grammar;" ∈ kAL := List.mem_filter.mpr ⟨kin_t1 _ (List.mem_of_getElem? (i := 124) rfl), rfl⟩
theorem kq_1_125 : Cond.fieldLink "Parserpark" 18 "Parserpark" "texts" "[LParserpark$Text;" ∈ kAL := List.mem_filter.mpr ⟨kin_t1 _ (List.mem_of_getElem? (i := 125) rfl), rfl⟩
theorem kq_1_126 : Cond.fieldLink "Parserpark" 25 "Parserpark" "scratch" "LParserpark$Spans;" ∈ kAL := List.mem_filter.mpr ⟨kin_t1 _ (List.mem_of_getElem? (i := 126) rfl), rfl⟩
theorem kq_1_127 : Cond.fieldLink "Parserpark" 32 "Parserpark" "layout" "LParserpark$Layout;" ∈ kAL := List.mem_filter.mpr ⟨kin_t1 _ (List.mem_of_getElem? (i := 127) rfl), rfl⟩
theorem kq_1_128 : Cond.fieldLink "Parserpark" 39 "Parserpark" "trial" "LParserpark$Trial;" ∈ kAL := List.mem_filter.mpr ⟨kin_t1 _ (List.mem_of_getElem? (i := 128) rfl), rfl⟩
theorem kq_1_129 : Cond.fieldLink "Parserpark" 43 "Parserpark" "textCount" "I" ∈ kAL := List.mem_filter.mpr ⟨kin_t1 _ (List.mem_of_getElem? (i := 129) rfl), rfl⟩
theorem kq_1_130 : Cond.fieldLink "Parserpark" 47 "Parserpark" "releases" "I" ∈ kAL := List.mem_filter.mpr ⟨kin_t1 _ (List.mem_of_getElem? (i := 130) rfl), rfl⟩
theorem kq_1_131 : Cond.fieldLink "Parserpark" 50 "Parserpark" "found" "J" ∈ kAL := List.mem_filter.mpr ⟨kin_t1 _ (List.mem_of_getElem? (i := 131) rfl), rfl⟩
theorem kq_1_132 : Cond.laysFinal "Parserpark" "Parserpark" "grammar" "LParserpark$Grammar;" ∈ kAL := List.mem_filter.mpr ⟨kin_t1 _ (List.mem_of_getElem? (i := 132) rfl), rfl⟩
theorem kq_1_133 : Cond.soleField "Parserpark" "grammar" ∈ lw_tbl := kin_t1 _ (List.mem_of_getElem? (i := 133) rfl)
theorem kq_1_134 : Cond.laysFinal "Parserpark" "Parserpark" "texts" "[LParserpark$Text;" ∈ kAL := List.mem_filter.mpr ⟨kin_t1 _ (List.mem_of_getElem? (i := 134) rfl), rfl⟩
theorem kq_1_135 : Cond.soleField "Parserpark" "texts" ∈ lw_tbl := kin_t1 _ (List.mem_of_getElem? (i := 135) rfl)
theorem kq_1_136 : Cond.laysFinal "Parserpark" "Parserpark" "scratch" "LParserpark$Spans;" ∈ kAL := List.mem_filter.mpr ⟨kin_t1 _ (List.mem_of_getElem? (i := 136) rfl), rfl⟩
theorem kq_1_137 : Cond.soleField "Parserpark" "scratch" ∈ lw_tbl := kin_t1 _ (List.mem_of_getElem? (i := 137) rfl)
theorem kq_1_138 : Cond.laysFinal "Parserpark" "Parserpark" "layout" "LParserpark$Layout;" ∈ kAL := List.mem_filter.mpr ⟨kin_t1 _ (List.mem_of_getElem? (i := 138) rfl), rfl⟩
theorem kq_1_139 : Cond.soleField "Parserpark" "layout" ∈ lw_tbl := kin_t1 _ (List.mem_of_getElem? (i := 139) rfl)
theorem kq_1_140 : Cond.laysFinal "Parserpark" "Parserpark" "trial" "LParserpark$Trial;" ∈ kAL := List.mem_filter.mpr ⟨kin_t1 _ (List.mem_of_getElem? (i := 140) rfl), rfl⟩
theorem kq_1_141 : Cond.soleField "Parserpark" "trial" ∈ lw_tbl := kin_t1 _ (List.mem_of_getElem? (i := 141) rfl)
theorem kq_1_142 : Cond.lays "Parserpark" "Parserpark" "textCount" "I" ∈ kAL := List.mem_filter.mpr ⟨kin_t1 _ (List.mem_of_getElem? (i := 142) rfl), rfl⟩
theorem kq_1_143 : Cond.soleField "Parserpark" "textCount" ∈ lw_tbl := kin_t1 _ (List.mem_of_getElem? (i := 143) rfl)
theorem kq_1_144 : Cond.lays "Parserpark" "Parserpark" "releases" "I" ∈ kAL := List.mem_filter.mpr ⟨kin_t1 _ (List.mem_of_getElem? (i := 144) rfl), rfl⟩
theorem kq_1_145 : Cond.soleField "Parserpark" "releases" ∈ lw_tbl := kin_t1 _ (List.mem_of_getElem? (i := 145) rfl)
theorem kq_1_146 : Cond.lays "Parserpark" "Parserpark" "found" "J" ∈ kAL := List.mem_filter.mpr ⟨kin_t1 _ (List.mem_of_getElem? (i := 146) rfl), rfl⟩
theorem kq_1_147 : Cond.soleField "Parserpark" "found" ∈ lw_tbl := kin_t1 _ (List.mem_of_getElem? (i := 147) rfl)
theorem kq_1_148 : Cond.superclass "Parserpark" "java/lang/Object" ∈ lw_tbl := kin_t1 _ (List.mem_of_getElem? (i := 148) rfl)
theorem kq_1_149 : Cond.methodLink "ParserparkLaw" 130 yX6_rules ∈ kAL := List.mem_filter.mpr ⟨kin_t1 _ (List.mem_of_getElem? (i := 149) rfl), rfl⟩
theorem kq_1_150 : Cond.instanceMethod yX6_rules ∈ kAL := List.mem_filter.mpr ⟨kin_t1 _ (List.mem_of_getElem? (i := 150) rfl), rfl⟩
theorem kq_1_151 : Cond.selects "Parserpark" yX6_rules yX6_rules ∈ kAL := List.mem_filter.mpr ⟨kin_t1 _ (List.mem_of_getElem? (i := 151) rfl), rfl⟩
theorem kq_1_152 : Cond.code yX6_rules prog_1_method_6_code 1 (some .int) ∈ kAL := List.mem_filter.mpr ⟨kin_t1 _ (List.mem_of_getElem? (i := 152) rfl), rfl⟩
theorem kq_1_153 : Cond.methodLink "Parserpark" 108 yX0_countLive ∈ kAL := List.mem_filter.mpr ⟨kin_t1 _ (List.mem_of_getElem? (i := 153) rfl), rfl⟩
theorem kq_1_154 : Cond.instanceMethod yX0_countLive ∈ kAL := List.mem_filter.mpr ⟨kin_t1 _ (List.mem_of_getElem? (i := 154) rfl), rfl⟩
theorem kq_1_155 : Cond.selects "Parserpark$Grammar" yX0_countLive yX0_countLive ∈ kAL := List.mem_filter.mpr ⟨kin_t1 _ (List.mem_of_getElem? (i := 155) rfl), rfl⟩
theorem kq_1_156 : Cond.code yX0_countLive prog_2_method_5_code 3 (some .int) ∈ kAL := List.mem_filter.mpr ⟨kin_t1 _ (List.mem_of_getElem? (i := 156) rfl), rfl⟩
theorem kq_1_157 : Cond.methodLink "Parserpark$Grammar" 25 yX0_liveRule ∈ kAL := List.mem_filter.mpr ⟨kin_t1 _ (List.mem_of_getElem? (i := 157) rfl), rfl⟩
theorem kq_1_158 : Cond.instanceMethod yX0_liveRule ∈ kAL := List.mem_filter.mpr ⟨kin_t1 _ (List.mem_of_getElem? (i := 158) rfl), rfl⟩
theorem kq_1_159 : Cond.selects "Parserpark$Grammar" yX0_liveRule yX0_liveRule ∈ kAL := List.mem_filter.mpr ⟨kin_t1 _ (List.mem_of_getElem? (i := 159) rfl), rfl⟩
theorem kq_1_160 : Cond.code yX0_liveRule prog_2_method_4_code 3 (some (.object "Parserpark$Rule")) ∈ kAL := List.mem_filter.mpr ⟨kin_t1 _ (List.mem_of_getElem? (i := 160) rfl), rfl⟩
theorem kq_1_161 : Cond.methodLink "ParserparkLaw" 192 yX6_work ∈ kAL := List.mem_filter.mpr ⟨kin_t1 _ (List.mem_of_getElem? (i := 161) rfl), rfl⟩
theorem kq_1_162 : Cond.instanceMethod yX6_work ∈ kAL := List.mem_filter.mpr ⟨kin_t1 _ (List.mem_of_getElem? (i := 162) rfl), rfl⟩
theorem kq_1_163 : Cond.selects "Parserpark" yX6_work yX6_work ∈ kAL := List.mem_filter.mpr ⟨kin_t1 _ (List.mem_of_getElem? (i := 163) rfl), rfl⟩
theorem kq_1_164 : Cond.code yX6_work prog_1_method_26_code 1 (some .long) ∈ kAL := List.mem_filter.mpr ⟨kin_t1 _ (List.mem_of_getElem? (i := 164) rfl), rfl⟩
theorem kq_1_165 : Cond.methodLink "ParserparkLaw" 204 yX6_isSound ∈ kAL := List.mem_filter.mpr ⟨kin_t1 _ (List.mem_of_getElem? (i := 165) rfl), rfl⟩
theorem kq_1_166 : Cond.instanceMethod yX6_isSound ∈ kAL := List.mem_filter.mpr ⟨kin_t1 _ (List.mem_of_getElem? (i := 166) rfl), rfl⟩
theorem kq_1_167 : Cond.selects "Parserpark" yX6_isSound yX6_isSound ∈ kAL := List.mem_filter.mpr ⟨kin_t1 _ (List.mem_of_getElem? (i := 167) rfl), rfl⟩
theorem kq_1_168 : Cond.code yX6_isSound prog_1_method_29_code 5 (some .boolean) ∈ kAL := List.mem_filter.mpr ⟨kin_t1 _ (List.mem_of_getElem? (i := 168) rfl), rfl⟩
theorem kq_1_169 : Cond.methodLink "Parserpark" 209 yX6_isSoundText ∈ kAL := List.mem_filter.mpr ⟨kin_t1 _ (List.mem_of_getElem? (i := 169) rfl), rfl⟩
theorem kq_1_170 : Cond.privateMethod yX6_isSoundText ∈ lw_tbl := kin_t1 _ (List.mem_of_getElem? (i := 170) rfl)
theorem kq_1_171 : Cond.instanceMethod yX6_isSoundText ∈ kAL := List.mem_filter.mpr ⟨kin_t1 _ (List.mem_of_getElem? (i := 171) rfl), rfl⟩
theorem kq_1_172 : Cond.code yX6_isSoundText prog_1_method_47_code 3 (some .boolean) ∈ kAL := List.mem_filter.mpr ⟨kin_t1 _ (List.mem_of_getElem? (i := 172) rfl), rfl⟩
theorem kq_1_173 : Cond.methodLink "Parserpark" 134 yX3_treesOfAll ∈ kAL := List.mem_filter.mpr ⟨kin_t1 _ (List.mem_of_getElem? (i := 173) rfl), rfl⟩
theorem kq_1_174 : Cond.instanceMethod yX3_treesOfAll ∈ kAL := List.mem_filter.mpr ⟨kin_t1 _ (List.mem_of_getElem? (i := 174) rfl), rfl⟩
theorem kq_1_175 : Cond.selects "Parserpark$Spans" yX3_treesOfAll yX3_treesOfAll ∈ kAL := List.mem_filter.mpr ⟨kin_t1 _ (List.mem_of_getElem? (i := 175) rfl), rfl⟩
theorem kq_1_176 : Cond.code yX3_treesOfAll prog_5_method_13_code 1 (some .int) ∈ kAL := List.mem_filter.mpr ⟨kin_t1 _ (List.mem_of_getElem? (i := 176) rfl), rfl⟩
theorem kq_1_177 : Cond.methodLink "Parserpark$Spans" 90 yX3_treesOf ∈ kAL := List.mem_filter.mpr ⟨kin_t1 _ (List.mem_of_getElem? (i := 177) rfl), rfl⟩
theorem kq_1_178 : Cond.instanceMethod yX3_treesOf ∈ kAL := List.mem_filter.mpr ⟨kin_t1 _ (List.mem_of_getElem? (i := 178) rfl), rfl⟩
theorem kq_1_179 : Cond.selects "Parserpark$Spans" yX3_treesOf yX3_treesOf ∈ kAL := List.mem_filter.mpr ⟨kin_t1 _ (List.mem_of_getElem? (i := 179) rfl), rfl⟩
theorem kq_1_180 : Cond.code yX3_treesOf prog_5_method_14_code 4 (some .int) ∈ kAL := List.mem_filter.mpr ⟨kin_t1 _ (List.mem_of_getElem? (i := 180) rfl), rfl⟩
theorem kq_1_181 : Cond.methodLink "Parserpark" 151 yX5_treesOfAll ∈ kAL := List.mem_filter.mpr ⟨kin_t1 _ (List.mem_of_getElem? (i := 181) rfl), rfl⟩
theorem kq_1_182 : Cond.instanceMethod yX5_treesOfAll ∈ kAL := List.mem_filter.mpr ⟨kin_t1 _ (List.mem_of_getElem? (i := 182) rfl), rfl⟩
theorem kq_1_183 : Cond.selects "Parserpark$Trial" yX5_treesOfAll yX5_treesOfAll ∈ kAL := List.mem_filter.mpr ⟨kin_t1 _ (List.mem_of_getElem? (i := 183) rfl), rfl⟩
theorem kq_1_184 : Cond.code yX5_treesOfAll prog_7_method_2_code 3 (some .int) ∈ kAL := List.mem_filter.mpr ⟨kin_t1 _ (List.mem_of_getElem? (i := 184) rfl), rfl⟩
theorem kq_1_185 : Cond.methodLink "Parserpark$Trial" 15 yJ7_fill_53178 ∈ kAL := List.mem_filter.mpr ⟨kin_t1 _ (List.mem_of_getElem? (i := 185) rfl), rfl⟩
theorem kq_1_186 : Cond.static yJ7_fill_53178 ∈ kAL := List.mem_filter.mpr ⟨kin_t1 _ (List.mem_of_getElem? (i := 186) rfl), rfl⟩
theorem kq_1_187 : Cond.code yJ7_fill_53178 prog_22_method_103_code 4 (none : Option Jvm.ClassFile.FieldType) ∈ kAL := List.mem_filter.mpr ⟨kin_t1 _ (List.mem_of_getElem? (i := 187) rfl), rfl⟩
theorem kq_1_188 : Cond.methodLink "Parserpark$Trial" 27 yX5_tryName ∈ kAL := List.mem_filter.mpr ⟨kin_t1 _ (List.mem_of_getElem? (i := 188) rfl), rfl⟩
theorem kq_1_189 : Cond.privateMethod yX5_tryName ∈ lw_tbl := kin_t1 _ (List.mem_of_getElem? (i := 189) rfl)
theorem kq_1_190 : Cond.instanceMethod yX5_tryName ∈ kAL := List.mem_filter.mpr ⟨kin_t1 _ (List.mem_of_getElem? (i := 190) rfl), rfl⟩
theorem kq_1_191 : Cond.code yX5_tryName prog_7_method_3_code 11 (some .int) ∈ kAL := List.mem_filter.mpr ⟨kin_t1 _ (List.mem_of_getElem? (i := 191) rfl), rfl⟩
theorem kq_1_192 : Cond.methodLinkNest "Parserpark$Trial" 31 yX6_spot "Parserpark" ∈ kBL := List.mem_filter.mpr ⟨kin_t1 _ (List.mem_of_getElem? (i := 192) rfl), rfl⟩
theorem kq_1_193 : Cond.static yX6_spot ∈ kAL := List.mem_filter.mpr ⟨kin_t1 _ (List.mem_of_getElem? (i := 193) rfl), rfl⟩
theorem kq_1_194 : Cond.code yX6_spot prog_1_method_36_code 3 (some .int) ∈ kAL := List.mem_filter.mpr ⟨kin_t1 _ (List.mem_of_getElem? (i := 194) rfl), rfl⟩
theorem kq_1_195 : Cond.methodLink "Parserpark$Trial" 40 yX0_liveRule ∈ kAL := List.mem_filter.mpr ⟨kin_t1 _ (List.mem_of_getElem? (i := 195) rfl), rfl⟩
theorem kq_1_196 : Cond.methodLink "Parserpark$Trial" 49 yX5_tryRule ∈ kAL := List.mem_filter.mpr ⟨kin_t1 _ (List.mem_of_getElem? (i := 196) rfl), rfl⟩
theorem kq_1_197 : Cond.privateMethod yX5_tryRule ∈ lw_tbl := kin_t1 _ (List.mem_of_getElem? (i := 197) rfl)
theorem kq_1_198 : Cond.instanceMethod yX5_tryRule ∈ kAL := List.mem_filter.mpr ⟨kin_t1 _ (List.mem_of_getElem? (i := 198) rfl), rfl⟩
theorem kq_1_199 : Cond.code yX5_tryRule prog_7_method_4_code 10 (some .int) ∈ kAL := List.mem_filter.mpr ⟨kin_t1 _ (List.mem_of_getElem? (i := 199) rfl), rfl⟩
theorem kq_1_200 : Cond.methodLink "Parserpark$Trial" 63 yX5_tryPart ∈ kAL := List.mem_filter.mpr ⟨kin_t1 _ (List.mem_of_getElem? (i := 200) rfl), rfl⟩
theorem kq_1_201 : Cond.privateMethod yX5_tryPart ∈ lw_tbl := kin_t1 _ (List.mem_of_getElem? (i := 201) rfl)
theorem kq_1_202 : Cond.instanceMethod yX5_tryPart ∈ kAL := List.mem_filter.mpr ⟨kin_t1 _ (List.mem_of_getElem? (i := 202) rfl), rfl⟩
theorem kq_1_203 : Cond.code yX5_tryPart prog_7_method_6_code 7 (some .int) ∈ kAL := List.mem_filter.mpr ⟨kin_t1 _ (List.mem_of_getElem? (i := 203) rfl), rfl⟩
theorem kq_1_204 : Cond.methodLinkNest "Parserpark$Trial" 72 yX6_isLetter "Parserpark" ∈ kBL := List.mem_filter.mpr ⟨kin_t1 _ (List.mem_of_getElem? (i := 204) rfl), rfl⟩
theorem kq_1_205 : Cond.static yX6_isLetter ∈ kAL := List.mem_filter.mpr ⟨kin_t1 _ (List.mem_of_getElem? (i := 205) rfl), rfl⟩
theorem kq_1_206 : Cond.code yX6_isLetter prog_1_method_31_code 1 (some .boolean) ∈ kAL := List.mem_filter.mpr ⟨kin_t1 _ (List.mem_of_getElem? (i := 206) rfl), rfl⟩
theorem kq_1_207 : Cond.methodLink "Parserpark$Trial" 76 yX3_treesOf ∈ kAL := List.mem_filter.mpr ⟨kin_t1 _ (List.mem_of_getElem? (i := 207) rfl), rfl⟩
theorem kq_1_208 : Cond.methodLink "Parserpark$Trial" 66 yX5_tryBehindFirst ∈ kAL := List.mem_filter.mpr ⟨kin_t1 _ (List.mem_of_getElem? (i := 208) rfl), rfl⟩
theorem kq_1_209 : Cond.privateMethod yX5_tryBehindFirst ∈ lw_tbl := kin_t1 _ (List.mem_of_getElem? (i := 209) rfl)
theorem kq_1_210 : Cond.instanceMethod yX5_tryBehindFirst ∈ kAL := List.mem_filter.mpr ⟨kin_t1 _ (List.mem_of_getElem? (i := 210) rfl), rfl⟩
theorem kq_1_211 : Cond.code yX5_tryBehindFirst prog_7_method_5_code 10 (some .int) ∈ kAL := List.mem_filter.mpr ⟨kin_t1 _ (List.mem_of_getElem? (i := 211) rfl), rfl⟩
theorem kq_1_212 : Cond.methodLinkNest "Parserpark$Trial" 53 yX6_limited "Parserpark" ∈ kBL := List.mem_filter.mpr ⟨kin_t1 _ (List.mem_of_getElem? (i := 212) rfl), rfl⟩
theorem kq_1_213 : Cond.static yX6_limited ∈ kAL := List.mem_filter.mpr ⟨kin_t1 _ (List.mem_of_getElem? (i := 213) rfl), rfl⟩
theorem kq_1_214 : Cond.code yX6_limited prog_1_method_35_code 1 (some .int) ∈ kAL := List.mem_filter.mpr ⟨kin_t1 _ (List.mem_of_getElem? (i := 214) rfl), rfl⟩
theorem kq_1_215 : Cond.methodLink "Parserpark" 250 yX3_copyLetters ∈ kAL := List.mem_filter.mpr ⟨kin_t1 _ (List.mem_of_getElem? (i := 215) rfl), rfl⟩
theorem kq_1_216 : Cond.instanceMethod yX3_copyLetters ∈ kAL := List.mem_filter.mpr ⟨kin_t1 _ (List.mem_of_getElem? (i := 216) rfl), rfl⟩
theorem kq_1_217 : Cond.selects "Parserpark$Spans" yX3_copyLetters yX3_copyLetters ∈ kAL := List.mem_filter.mpr ⟨kin_t1 _ (List.mem_of_getElem? (i := 217) rfl), rfl⟩
theorem kq_1_218 : Cond.code yX3_copyLetters prog_5_method_5_code 3 (none : Option Jvm.ClassFile.FieldType) ∈ kAL := List.mem_filter.mpr ⟨kin_t1 _ (List.mem_of_getElem? (i := 218) rfl), rfl⟩
theorem kq_1_219 : Cond.methodLink "Parserpark$Spans" 26 yX3_letterOf ∈ kAL := List.mem_filter.mpr ⟨kin_t1 _ (List.mem_of_getElem? (i := 219) rfl), rfl⟩
theorem kq_1_220 : Cond.instanceMethod yX3_letterOf ∈ kAL := List.mem_filter.mpr ⟨kin_t1 _ (List.mem_of_getElem? (i := 220) rfl), rfl⟩
theorem kq_1_221 : Cond.selects "Parserpark$Spans" yX3_letterOf yX3_letterOf ∈ kAL := List.mem_filter.mpr ⟨kin_t1 _ (List.mem_of_getElem? (i := 221) rfl), rfl⟩
theorem kq_1_222 : Cond.code yX3_letterOf prog_5_method_2_code 2 (some .int) ∈ kAL := List.mem_filter.mpr ⟨kin_t1 _ (List.mem_of_getElem? (i := 222) rfl), rfl⟩
theorem kq_1_223 : Cond.methodLink "Parserpark$Spans" 22 yX3_put ∈ kAL := List.mem_filter.mpr ⟨kin_t1 _ (List.mem_of_getElem? (i := 223) rfl), rfl⟩
theorem kq_1_224 : Cond.instanceMethod yX3_put ∈ kAL := List.mem_filter.mpr ⟨kin_t1 _ (List.mem_of_getElem? (i := 224) rfl), rfl⟩
theorem kq_1_225 : Cond.selects "Parserpark$Spans" yX3_put yX3_put ∈ kAL := List.mem_filter.mpr ⟨kin_t1 _ (List.mem_of_getElem? (i := 225) rfl), rfl⟩
theorem kq_1_226 : Cond.code yX3_put prog_5_method_3_code 3 (none : Option Jvm.ClassFile.FieldType) ∈ kAL := List.mem_filter.mpr ⟨kin_t1 _ (List.mem_of_getElem? (i := 226) rfl), rfl⟩
theorem kq_1_227 : Cond.methodLink "Parserpark" 229 yX3_findAll ∈ kAL := List.mem_filter.mpr ⟨kin_t1 _ (List.mem_of_getElem? (i := 227) rfl), rfl⟩
theorem kq_1_228 : Cond.instanceMethod yX3_findAll ∈ kAL := List.mem_filter.mpr ⟨kin_t1 _ (List.mem_of_getElem? (i := 228) rfl), rfl⟩
theorem kq_1_229 : Cond.selects "Parserpark$Spans" yX3_findAll yX3_findAll ∈ kAL := List.mem_filter.mpr ⟨kin_t1 _ (List.mem_of_getElem? (i := 229) rfl), rfl⟩
theorem kq_1_230 : Cond.code yX3_findAll prog_5_method_10_code 5 (some .int) ∈ kAL := List.mem_filter.mpr ⟨kin_t1 _ (List.mem_of_getElem? (i := 230) rfl), rfl⟩
theorem kq_1_231 : Cond.methodLink "Parserpark$Spans" 60 yX3_findSpan ∈ kAL := List.mem_filter.mpr ⟨kin_t1 _ (List.mem_of_getElem? (i := 231) rfl), rfl⟩
theorem kq_1_232 : Cond.privateMethod yX3_findSpan ∈ lw_tbl := kin_t1 _ (List.mem_of_getElem? (i := 232) rfl)
theorem kq_1_233 : Cond.instanceMethod yX3_findSpan ∈ kAL := List.mem_filter.mpr ⟨kin_t1 _ (List.mem_of_getElem? (i := 233) rfl), rfl⟩
theorem kq_1_234 : Cond.code yX3_findSpan prog_5_method_12_code 8 (none : Option Jvm.ClassFile.FieldType) ∈ kAL := List.mem_filter.mpr ⟨kin_t1 _ (List.mem_of_getElem? (i := 234) rfl), rfl⟩
theorem kq_1_235 : Cond.methodLink "Parserpark$Spans" 72 yX0_liveRule ∈ kAL := List.mem_filter.mpr ⟨kin_t1 _ (List.mem_of_getElem? (i := 235) rfl), rfl⟩
theorem kq_1_236 : Cond.methodLink "Parserpark$Spans" 79 yX3_treesByRule ∈ kAL := List.mem_filter.mpr ⟨kin_t1 _ (List.mem_of_getElem? (i := 236) rfl), rfl⟩
theorem kq_1_237 : Cond.instanceMethod yX3_treesByRule ∈ kAL := List.mem_filter.mpr ⟨kin_t1 _ (List.mem_of_getElem? (i := 237) rfl), rfl⟩
theorem kq_1_238 : Cond.selects "Parserpark$Spans" yX3_treesByRule yX3_treesByRule ∈ kAL := List.mem_filter.mpr ⟨kin_t1 _ (List.mem_of_getElem? (i := 238) rfl), rfl⟩
theorem kq_1_239 : Cond.code yX3_treesByRule prog_5_method_15_code 9 (some .int) ∈ kAL := List.mem_filter.mpr ⟨kin_t1 _ (List.mem_of_getElem? (i := 239) rfl), rfl⟩
theorem kq_2_0 : Cond.methodLinkNest "Parserpark$Spans" 83 yX6_limited "Parserpark" ∈ kBL := List.mem_filter.mpr ⟨kin_t2 _ (List.mem_of_getElem? (i := 0) rfl), rfl⟩
theorem kq_2_1 : Cond.methodLinkNest "Parserpark$Spans" 86 yX6_spot "Parserpark" ∈ kBL := List.mem_filter.mpr ⟨kin_t2 _ (List.mem_of_getElem? (i := 1) rfl), rfl⟩
theorem kq_2_2 : Cond.methodLink "Parserpark" 254 yX3_hasNumbersOf ∈ kAL := List.mem_filter.mpr ⟨kin_t2 _ (List.mem_of_getElem? (i := 2) rfl), rfl⟩
theorem kq_2_3 : Cond.instanceMethod yX3_hasNumbersOf ∈ kAL := List.mem_filter.mpr ⟨kin_t2 _ (List.mem_of_getElem? (i := 3) rfl), rfl⟩
theorem kq_2_4 : Cond.selects "Parserpark$Spans" yX3_hasNumbersOf yX3_hasNumbersOf ∈ kAL := List.mem_filter.mpr ⟨kin_t2 _ (List.mem_of_getElem? (i := 4) rfl), rfl⟩
theorem kq_2_5 : Cond.code yX3_hasNumbersOf prog_5_method_17_code 5 (some .boolean) ∈ kAL := List.mem_filter.mpr ⟨kin_t2 _ (List.mem_of_getElem? (i := 5) rfl), rfl⟩
theorem kq_2_6 : Cond.methodLink "Parserpark" 177 yX1_lay ∈ kAL := List.mem_filter.mpr ⟨kin_t2 _ (List.mem_of_getElem? (i := 6) rfl), rfl⟩
theorem kq_2_7 : Cond.instanceMethod yX1_lay ∈ kAL := List.mem_filter.mpr ⟨kin_t2 _ (List.mem_of_getElem? (i := 7) rfl), rfl⟩
theorem kq_2_8 : Cond.selects "Parserpark$Layout" yX1_lay yX1_lay ∈ kAL := List.mem_filter.mpr ⟨kin_t2 _ (List.mem_of_getElem? (i := 8) rfl), rfl⟩
theorem kq_2_9 : Cond.code yX1_lay prog_3_method_2_code 9 (none : Option Jvm.ClassFile.FieldType) ∈ kAL := List.mem_filter.mpr ⟨kin_t2 _ (List.mem_of_getElem? (i := 9) rfl), rfl⟩
theorem kq_2_10 : Cond.methodLink "Parserpark$Layout" 46 yX1_clear ∈ kAL := List.mem_filter.mpr ⟨kin_t2 _ (List.mem_of_getElem? (i := 10) rfl), rfl⟩
theorem kq_2_11 : Cond.privateMethod yX1_clear ∈ lw_tbl := kin_t2 _ (List.mem_of_getElem? (i := 11) rfl)
theorem kq_2_12 : Cond.instanceMethod yX1_clear ∈ kAL := List.mem_filter.mpr ⟨kin_t2 _ (List.mem_of_getElem? (i := 12) rfl), rfl⟩
theorem kq_2_13 : Cond.code yX1_clear prog_3_method_3_code 1 (none : Option Jvm.ClassFile.FieldType) ∈ kAL := List.mem_filter.mpr ⟨kin_t2 _ (List.mem_of_getElem? (i := 13) rfl), rfl⟩
theorem kq_2_14 : Cond.methodLink "Parserpark$Layout" 86 yJ7_fill_53178 ∈ kAL := List.mem_filter.mpr ⟨kin_t2 _ (List.mem_of_getElem? (i := 14) rfl), rfl⟩
theorem kq_2_15 : Cond.methodLink "Parserpark$Layout" 49 yX3_treesOfAll ∈ kAL := List.mem_filter.mpr ⟨kin_t2 _ (List.mem_of_getElem? (i := 15) rfl), rfl⟩
theorem kq_2_16 : Cond.methodLink "Parserpark$Layout" 58 yX1_push ∈ kAL := List.mem_filter.mpr ⟨kin_t2 _ (List.mem_of_getElem? (i := 16) rfl), rfl⟩
theorem kq_2_17 : Cond.privateMethod yX1_push ∈ lw_tbl := kin_t2 _ (List.mem_of_getElem? (i := 17) rfl)
theorem kq_2_18 : Cond.instanceMethod yX1_push ∈ kAL := List.mem_filter.mpr ⟨kin_t2 _ (List.mem_of_getElem? (i := 18) rfl), rfl⟩
theorem kq_2_19 : Cond.code yX1_push prog_3_method_4_code 5 (none : Option Jvm.ClassFile.FieldType) ∈ kAL := List.mem_filter.mpr ⟨kin_t2 _ (List.mem_of_getElem? (i := 19) rfl), rfl⟩
theorem kq_2_20 : Cond.methodLinkNest "Parserpark$Layout" 62 yX6_isLetter "Parserpark" ∈ kBL := List.mem_filter.mpr ⟨kin_t2 _ (List.mem_of_getElem? (i := 20) rfl), rfl⟩
theorem kq_2_21 : Cond.methodLink "Parserpark$Layout" 66 yJ9_max_7cf53 ∈ kAL := List.mem_filter.mpr ⟨kin_t2 _ (List.mem_of_getElem? (i := 21) rfl), rfl⟩
theorem kq_2_22 : Cond.static yJ9_max_7cf53 ∈ kAL := List.mem_filter.mpr ⟨kin_t2 _ (List.mem_of_getElem? (i := 22) rfl), rfl⟩
theorem kq_2_23 : Cond.code yJ9_max_7cf53 prog_17_method_65_code 2 (some .int) ∈ kAL := List.mem_filter.mpr ⟨kin_t2 _ (List.mem_of_getElem? (i := 23) rfl), rfl⟩
theorem kq_2_24 : Cond.methodLink "Parserpark$Layout" 72 yX0_chosenRule ∈ kAL := List.mem_filter.mpr ⟨kin_t2 _ (List.mem_of_getElem? (i := 24) rfl), rfl⟩
theorem kq_2_25 : Cond.instanceMethod yX0_chosenRule ∈ kAL := List.mem_filter.mpr ⟨kin_t2 _ (List.mem_of_getElem? (i := 25) rfl), rfl⟩
theorem kq_2_26 : Cond.selects "Parserpark$Grammar" yX0_chosenRule yX0_chosenRule ∈ kAL := List.mem_filter.mpr ⟨kin_t2 _ (List.mem_of_getElem? (i := 26) rfl), rfl⟩
theorem kq_2_27 : Cond.code yX0_chosenRule prog_2_method_6_code 9 (some (.object "Parserpark$Rule")) ∈ kAL := List.mem_filter.mpr ⟨kin_t2 _ (List.mem_of_getElem? (i := 27) rfl), rfl⟩
theorem kq_2_28 : Cond.methodLink "Parserpark$Grammar" 35 yX3_splitOf ∈ kAL := List.mem_filter.mpr ⟨kin_t2 _ (List.mem_of_getElem? (i := 28) rfl), rfl⟩
theorem kq_2_29 : Cond.instanceMethod yX3_splitOf ∈ kAL := List.mem_filter.mpr ⟨kin_t2 _ (List.mem_of_getElem? (i := 29) rfl), rfl⟩
theorem kq_2_30 : Cond.selects "Parserpark$Spans" yX3_splitOf yX3_splitOf ∈ kAL := List.mem_filter.mpr ⟨kin_t2 _ (List.mem_of_getElem? (i := 30) rfl), rfl⟩
theorem kq_2_31 : Cond.code yX3_splitOf prog_5_method_16_code 7 (some .int) ∈ kAL := List.mem_filter.mpr ⟨kin_t2 _ (List.mem_of_getElem? (i := 31) rfl), rfl⟩
theorem kq_2_32 : Cond.methodLink "Parserpark$Layout" 78 yX1_layRule ∈ kAL := List.mem_filter.mpr ⟨kin_t2 _ (List.mem_of_getElem? (i := 32) rfl), rfl⟩
theorem kq_2_33 : Cond.privateMethod yX1_layRule ∈ lw_tbl := kin_t2 _ (List.mem_of_getElem? (i := 33) rfl)
theorem kq_2_34 : Cond.instanceMethod yX1_layRule ∈ kAL := List.mem_filter.mpr ⟨kin_t2 _ (List.mem_of_getElem? (i := 34) rfl), rfl⟩
theorem kq_2_35 : Cond.code yX1_layRule prog_3_method_5_code 5 (none : Option Jvm.ClassFile.FieldType) ∈ kAL := List.mem_filter.mpr ⟨kin_t2 _ (List.mem_of_getElem? (i := 35) rfl), rfl⟩
theorem kq_2_36 : Cond.methodLink "Parserpark$Layout" 82 yX1_pushParts ∈ kAL := List.mem_filter.mpr ⟨kin_t2 _ (List.mem_of_getElem? (i := 36) rfl), rfl⟩
theorem kq_2_37 : Cond.privateMethod yX1_pushParts ∈ lw_tbl := kin_t2 _ (List.mem_of_getElem? (i := 37) rfl)
theorem kq_2_38 : Cond.instanceMethod yX1_pushParts ∈ kAL := List.mem_filter.mpr ⟨kin_t2 _ (List.mem_of_getElem? (i := 38) rfl), rfl⟩
theorem kq_2_39 : Cond.code yX1_pushParts prog_3_method_6_code 9 (none : Option Jvm.ClassFile.FieldType) ∈ kAL := List.mem_filter.mpr ⟨kin_t2 _ (List.mem_of_getElem? (i := 39) rfl), rfl⟩
theorem kq_2_40 : Cond.methodLink "Parserpark$Layout" 100 yX3_splitOf ∈ kAL := List.mem_filter.mpr ⟨kin_t2 _ (List.mem_of_getElem? (i := 40) rfl), rfl⟩
theorem kq_2_41 : Cond.methodLink "Parserpark$Layout" 110 yX1_setGap ∈ kAL := List.mem_filter.mpr ⟨kin_t2 _ (List.mem_of_getElem? (i := 41) rfl), rfl⟩
theorem kq_2_42 : Cond.privateMethod yX1_setGap ∈ lw_tbl := kin_t2 _ (List.mem_of_getElem? (i := 42) rfl)
theorem kq_2_43 : Cond.instanceMethod yX1_setGap ∈ kAL := List.mem_filter.mpr ⟨kin_t2 _ (List.mem_of_getElem? (i := 43) rfl), rfl⟩
theorem kq_2_44 : Cond.code yX1_setGap prog_3_method_7_code 3 (none : Option Jvm.ClassFile.FieldType) ∈ kAL := List.mem_filter.mpr ⟨kin_t2 _ (List.mem_of_getElem? (i := 44) rfl), rfl⟩
theorem kq_2_45 : Cond.methodLink "ParserparkLaw" 109 yL_addRule ∈ kAL := List.mem_filter.mpr ⟨kin_t2 _ (List.mem_of_getElem? (i := 45) rfl), rfl⟩
theorem kq_2_46 : Cond.static yL_addRule ∈ kAL := List.mem_filter.mpr ⟨kin_t2 _ (List.mem_of_getElem? (i := 46) rfl), rfl⟩
theorem kq_2_47 : Cond.codeWith yL_addRule method_3_code 7 (some .int) [(0, 14, 17, 13), (0, 14, 21, 15)] ∈ kAL := List.mem_filter.mpr ⟨kin_t2 _ (List.mem_of_getElem? (i := 47) rfl), rfl⟩
theorem kq_2_48 : Cond.classLink "ParserparkLaw" 13 "java/lang/IllegalArgumentException" ∈ kAL := List.mem_filter.mpr ⟨kin_t2 _ (List.mem_of_getElem? (i := 48) rfl), rfl⟩
theorem kq_2_49 : Cond.classLink "ParserparkLaw" 15 "java/lang/IllegalStateException" ∈ kAL := List.mem_filter.mpr ⟨kin_t2 _ (List.mem_of_getElem? (i := 49) rfl), rfl⟩
theorem kq_2_50 : Cond.methodLink "ParserparkLaw" 7 yX6_addRule ∈ kAL := List.mem_filter.mpr ⟨kin_t2 _ (List.mem_of_getElem? (i := 50) rfl), rfl⟩
theorem kq_2_51 : Cond.instanceMethod yX6_addRule ∈ kAL := List.mem_filter.mpr ⟨kin_t2 _ (List.mem_of_getElem? (i := 51) rfl), rfl⟩
theorem kq_2_52 : Cond.selects "Parserpark" yX6_addRule yX6_addRule ∈ kAL := List.mem_filter.mpr ⟨kin_t2 _ (List.mem_of_getElem? (i := 52) rfl), rfl⟩
theorem kq_2_53 : Cond.code yX6_addRule prog_1_method_2_code 6 (some .int) ∈ kAL := List.mem_filter.mpr ⟨kin_t2 _ (List.mem_of_getElem? (i := 53) rfl), rfl⟩
theorem kq_2_54 : Cond.methodLink "Parserpark" 54 yX6_isRuleForm ∈ kAL := List.mem_filter.mpr ⟨kin_t2 _ (List.mem_of_getElem? (i := 54) rfl), rfl⟩
theorem kq_2_55 : Cond.static yX6_isRuleForm ∈ kAL := List.mem_filter.mpr ⟨kin_t2 _ (List.mem_of_getElem? (i := 55) rfl), rfl⟩
theorem kq_2_56 : Cond.code yX6_isRuleForm prog_1_method_34_code 4 (some .boolean) ∈ kAL := List.mem_filter.mpr ⟨kin_t2 _ (List.mem_of_getElem? (i := 56) rfl), rfl⟩
theorem kq_2_57 : Cond.methodLink "Parserpark" 154 yX6_isName ∈ kAL := List.mem_filter.mpr ⟨kin_t2 _ (List.mem_of_getElem? (i := 57) rfl), rfl⟩
theorem kq_2_58 : Cond.static yX6_isName ∈ kAL := List.mem_filter.mpr ⟨kin_t2 _ (List.mem_of_getElem? (i := 58) rfl), rfl⟩
theorem kq_2_59 : Cond.code yX6_isName prog_1_method_32_code 1 (some .boolean) ∈ kAL := List.mem_filter.mpr ⟨kin_t2 _ (List.mem_of_getElem? (i := 59) rfl), rfl⟩
theorem kq_2_60 : Cond.methodLink "Parserpark" 216 yX6_isSymbol ∈ kAL := List.mem_filter.mpr ⟨kin_t2 _ (List.mem_of_getElem? (i := 60) rfl), rfl⟩
theorem kq_2_61 : Cond.static yX6_isSymbol ∈ kAL := List.mem_filter.mpr ⟨kin_t2 _ (List.mem_of_getElem? (i := 61) rfl), rfl⟩
theorem kq_2_62 : Cond.code yX6_isSymbol prog_1_method_33_code 1 (some .boolean) ∈ kAL := List.mem_filter.mpr ⟨kin_t2 _ (List.mem_of_getElem? (i := 62) rfl), rfl⟩
theorem kq_2_63 : Cond.methodLink "Parserpark" 213 yX6_isLetter ∈ kAL := List.mem_filter.mpr ⟨kin_t2 _ (List.mem_of_getElem? (i := 63) rfl), rfl⟩
theorem kq_2_64 : Cond.classLink "Parserpark" 58 "java/lang/IllegalArgumentException" ∈ kAL := List.mem_filter.mpr ⟨kin_t2 _ (List.mem_of_getElem? (i := 64) rfl), rfl⟩
theorem kq_2_65 : Cond.instantiable "java/lang/IllegalArgumentException" 6 ∈ kAL := List.mem_filter.mpr ⟨kin_t2 _ (List.mem_of_getElem? (i := 65) rfl), rfl⟩
theorem kq_2_66 : Cond.castable "java/lang/IllegalArgumentException" "java/lang/IllegalArgumentException" ∈ kBL := List.mem_filter.mpr ⟨kin_t2 _ (List.mem_of_getElem? (i := 66) rfl), rfl⟩
theorem kq_2_67 : Cond.declares (⟨"java/lang/RuntimeException", "<init>", "()V"⟩ : MethodName) ∈ kBL := List.mem_filter.mpr ⟨kin_t2 _ (List.mem_of_getElem? (i := 67) rfl), rfl⟩
theorem kq_2_68 : Cond.declares (⟨"java/lang/RuntimeException", "<init>", "(Ljava/lang/String;)V"⟩ : MethodName) ∈ kBL := List.mem_filter.mpr ⟨kin_t2 _ (List.mem_of_getElem? (i := 68) rfl), rfl⟩
theorem kq_2_69 : Cond.declares (⟨"java/lang/Exception", "<init>", "()V"⟩ : MethodName) ∈ kBL := List.mem_filter.mpr ⟨kin_t2 _ (List.mem_of_getElem? (i := 69) rfl), rfl⟩
theorem kq_2_70 : Cond.declares (⟨"java/lang/Exception", "<init>", "(Ljava/lang/String;)V"⟩ : MethodName) ∈ kBL := List.mem_filter.mpr ⟨kin_t2 _ (List.mem_of_getElem? (i := 70) rfl), rfl⟩
theorem kq_2_71 : Cond.declares (⟨"java/lang/Throwable", "<init>", "()V"⟩ : MethodName) ∈ kBL := List.mem_filter.mpr ⟨kin_t2 _ (List.mem_of_getElem? (i := 71) rfl), rfl⟩
theorem kq_2_72 : Cond.declares (⟨"java/lang/Throwable", "<init>", "(Ljava/lang/String;)V"⟩ : MethodName) ∈ kBL := List.mem_filter.mpr ⟨kin_t2 _ (List.mem_of_getElem? (i := 72) rfl), rfl⟩
theorem kq_2_73 : Cond.selects "java/lang/IllegalArgumentException" (⟨"java/lang/Throwable", "fillInStackTrace", "(I)Ljava/lang/Throwable;"⟩ : MethodName) (⟨"java/lang/Throwable", "fillInStackTrace", "(I)Ljava/lang/Throwable;"⟩ : MethodName) ∈ kAL := List.mem_filter.mpr ⟨kin_t2 _ (List.mem_of_getElem? (i := 73) rfl), rfl⟩
theorem kq_2_74 : Cond.selects "java/lang/IllegalArgumentException" (⟨"java/lang/Throwable", "fillInStackTrace", "()Ljava/lang/Throwable;"⟩ : MethodName) (⟨"java/lang/Throwable", "fillInStackTrace", "()Ljava/lang/Throwable;"⟩ : MethodName) ∈ kAL := List.mem_filter.mpr ⟨kin_t2 _ (List.mem_of_getElem? (i := 74) rfl), rfl⟩
theorem kq_2_75 : Cond.lays "java/lang/IllegalArgumentException" "java/lang/Throwable" "cause" "Ljava/lang/Throwable;" ∈ kAL := List.mem_filter.mpr ⟨kin_t2 _ (List.mem_of_getElem? (i := 75) rfl), rfl⟩
theorem kq_2_76 : Cond.lays "java/lang/Throwable" "java/lang/Throwable" "cause" "Ljava/lang/Throwable;" ∈ kAL := List.mem_filter.mpr ⟨kin_t2 _ (List.mem_of_getElem? (i := 76) rfl), rfl⟩
theorem kq_2_77 : Cond.lays "java/lang/IllegalArgumentException" "java/lang/Throwable" "stackTrace" "[Ljava/lang/StackTraceElement;" ∈ kAL := List.mem_filter.mpr ⟨kin_t2 _ (List.mem_of_getElem? (i := 77) rfl), rfl⟩
theorem kq_2_78 : Cond.lays "java/lang/Throwable" "java/lang/Throwable" "stackTrace" "[Ljava/lang/StackTraceElement;" ∈ kAL := List.mem_filter.mpr ⟨kin_t2 _ (List.mem_of_getElem? (i := 78) rfl), rfl⟩
theorem kq_2_79 : Cond.lays "java/lang/IllegalArgumentException" "java/lang/Throwable" "suppressedExceptions" "Ljava/util/List;" ∈ kAL := List.mem_filter.mpr ⟨kin_t2 _ (List.mem_of_getElem? (i := 79) rfl), rfl⟩
theorem kq_2_80 : Cond.lays "java/lang/Throwable" "java/lang/Throwable" "suppressedExceptions" "Ljava/util/List;" ∈ kAL := List.mem_filter.mpr ⟨kin_t2 _ (List.mem_of_getElem? (i := 80) rfl), rfl⟩
theorem kq_2_81 : Cond.lays "java/lang/IllegalArgumentException" "java/lang/Throwable" "detailMessage" "Ljava/lang/String;" ∈ kAL := List.mem_filter.mpr ⟨kin_t2 _ (List.mem_of_getElem? (i := 81) rfl), rfl⟩
theorem kq_2_82 : Cond.lays "java/lang/Throwable" "java/lang/Throwable" "detailMessage" "Ljava/lang/String;" ∈ kAL := List.mem_filter.mpr ⟨kin_t2 _ (List.mem_of_getElem? (i := 82) rfl), rfl⟩
theorem kq_2_83 : Cond.lays "java/lang/IllegalArgumentException" "java/lang/Throwable" "backtrace" "Ljava/lang/Object;" ∈ kAL := List.mem_filter.mpr ⟨kin_t2 _ (List.mem_of_getElem? (i := 83) rfl), rfl⟩
theorem kq_2_84 : Cond.lays "java/lang/Throwable" "java/lang/Throwable" "backtrace" "Ljava/lang/Object;" ∈ kAL := List.mem_filter.mpr ⟨kin_t2 _ (List.mem_of_getElem? (i := 84) rfl), rfl⟩
theorem kq_2_85 : Cond.fieldLink "java/lang/Throwable" 198 "java/lang/Throwable" "backtrace" "Ljava/lang/Object;" ∈ kAL := List.mem_filter.mpr ⟨kin_t2 _ (List.mem_of_getElem? (i := 85) rfl), rfl⟩
theorem kq_2_86 : Cond.superclass "java/lang/Throwable" "java/lang/Object" ∈ lw_tbl := kin_t2 _ (List.mem_of_getElem? (i := 86) rfl)
theorem kq_2_87 : Cond.instanceMethod (⟨"java/lang/Throwable", "<init>", "()V"⟩ : MethodName) ∈ kAL := List.mem_filter.mpr ⟨kin_t2 _ (List.mem_of_getElem? (i := 87) rfl), rfl⟩
theorem kq_2_88 : Cond.code (⟨"java/lang/Throwable", "<init>", "()V"⟩ : MethodName) prog_20_method_1_code 1 (none : Option Jvm.ClassFile.FieldType) ∈ kAL := List.mem_filter.mpr ⟨kin_t2 _ (List.mem_of_getElem? (i := 88) rfl), rfl⟩
theorem kq_2_89 : Cond.methodLink "java/lang/Throwable" 1 (⟨"java/lang/Object", "<init>", "()V"⟩ : MethodName) ∈ kAL := List.mem_filter.mpr ⟨kin_t2 _ (List.mem_of_getElem? (i := 89) rfl), rfl⟩
theorem kq_2_90 : Cond.fieldLink "java/lang/Throwable" 13 "java/lang/Throwable" "UNASSIGNED_STACK" "[Ljava/lang/StackTraceElement;" ∈ kAL := List.mem_filter.mpr ⟨kin_t2 _ (List.mem_of_getElem? (i := 90) rfl), rfl⟩
theorem kq_2_91 : Cond.laysStatic "java/lang/Throwable" "UNASSIGNED_STACK" "[Ljava/lang/StackTraceElement;" ∈ lw_tbl := kin_t2 _ (List.mem_of_getElem? (i := 91) rfl)
theorem kq_2_92 : Cond.fieldLink "java/lang/Throwable" 20 "java/lang/Throwable" "SUPPRESSED_SENTINEL" "Ljava/util/List;" ∈ kAL := List.mem_filter.mpr ⟨kin_t2 _ (List.mem_of_getElem? (i := 92) rfl), rfl⟩
theorem kq_2_93 : Cond.laysStatic "java/lang/Throwable" "SUPPRESSED_SENTINEL" "Ljava/util/List;" ∈ lw_tbl := kin_t2 _ (List.mem_of_getElem? (i := 93) rfl)
theorem kq_2_94 : Cond.methodLink "java/lang/Throwable" 27 (⟨"java/lang/Throwable", "fillInStackTrace", "()Ljava/lang/Throwable;"⟩ : MethodName) ∈ kAL := List.mem_filter.mpr ⟨kin_t2 _ (List.mem_of_getElem? (i := 94) rfl), rfl⟩
theorem kq_2_95 : Cond.instanceMethod (⟨"java/lang/Throwable", "fillInStackTrace", "()Ljava/lang/Throwable;"⟩ : MethodName) ∈ kAL := List.mem_filter.mpr ⟨kin_t2 _ (List.mem_of_getElem? (i := 95) rfl), rfl⟩
theorem kq_2_96 : Cond.sameMethod "java/lang/Throwable" "java/lang/Throwable" "fillInStackTrace" "()Ljava/lang/Throwable;" ∈ lw_tbl := kin_t2 _ (List.mem_of_getElem? (i := 96) rfl)
theorem kq_2_97 : Cond.selects "java/lang/ArithmeticException" (⟨"java/lang/Throwable", "fillInStackTrace", "()Ljava/lang/Throwable;"⟩ : MethodName) (⟨"java/lang/Throwable", "fillInStackTrace", "()Ljava/lang/Throwable;"⟩ : MethodName) ∈ kAL := List.mem_filter.mpr ⟨kin_t2 _ (List.mem_of_getElem? (i := 97) rfl), rfl⟩
theorem kq_2_98 : Cond.selects "java/lang/ArrayIndexOutOfBoundsException" (⟨"java/lang/Throwable", "fillInStackTrace", "()Ljava/lang/Throwable;"⟩ : MethodName) (⟨"java/lang/Throwable", "fillInStackTrace", "()Ljava/lang/Throwable;"⟩ : MethodName) ∈ kAL := List.mem_filter.mpr ⟨kin_t2 _ (List.mem_of_getElem? (i := 98) rfl), rfl⟩
theorem kq_2_99 : Cond.selects "java/lang/IllegalStateException" (⟨"java/lang/Throwable", "fillInStackTrace", "()Ljava/lang/Throwable;"⟩ : MethodName) (⟨"java/lang/Throwable", "fillInStackTrace", "()Ljava/lang/Throwable;"⟩ : MethodName) ∈ kAL := List.mem_filter.mpr ⟨kin_t2 _ (List.mem_of_getElem? (i := 99) rfl), rfl⟩
theorem kq_2_100 : Cond.selects "java/lang/IndexOutOfBoundsException" (⟨"java/lang/Throwable", "fillInStackTrace", "()Ljava/lang/Throwable;"⟩ : MethodName) (⟨"java/lang/Throwable", "fillInStackTrace", "()Ljava/lang/Throwable;"⟩ : MethodName) ∈ kAL := List.mem_filter.mpr ⟨kin_t2 _ (List.mem_of_getElem? (i := 100) rfl), rfl⟩
theorem kq_2_101 : Cond.selects "java/lang/UnsupportedOperationException" (⟨"java/lang/Throwable", "fillInStackTrace", "()Ljava/lang/Throwable;"⟩ : MethodName) (⟨"java/lang/Throwable", "fillInStackTrace", "()Ljava/lang/Throwable;"⟩ : MethodName) ∈ kAL := List.mem_filter.mpr ⟨kin_t2 _ (List.mem_of_getElem? (i := 101) rfl), rfl⟩
theorem kq_2_102 : Cond.selects "java/util/NoSuchElementException" (⟨"java/lang/Throwable", "fillInStackTrace", "()Ljava/lang/Throwable;"⟩ : MethodName) (⟨"java/lang/Throwable", "fillInStackTrace", "()Ljava/lang/Throwable;"⟩ : MethodName) ∈ kAL := List.mem_filter.mpr ⟨kin_t2 _ (List.mem_of_getElem? (i := 102) rfl), rfl⟩
theorem kq_2_103 : Cond.codeSync (⟨"java/lang/Throwable", "fillInStackTrace", "()Ljava/lang/Throwable;"⟩ : MethodName) prog_20_method_18_code 1 (some (.object "java/lang/Throwable")) ∈ lw_tbl := kin_t2 _ (List.mem_of_getElem? (i := 103) rfl)
theorem kq_2_104 : Cond.methodLink "java/lang/Throwable" 202 (⟨"java/lang/Throwable", "fillInStackTrace", "(I)Ljava/lang/Throwable;"⟩ : MethodName) ∈ kAL := List.mem_filter.mpr ⟨kin_t2 _ (List.mem_of_getElem? (i := 104) rfl), rfl⟩
theorem kq_2_105 : Cond.privateMethod (⟨"java/lang/Throwable", "fillInStackTrace", "(I)Ljava/lang/Throwable;"⟩ : MethodName) ∈ lw_tbl := kin_t2 _ (List.mem_of_getElem? (i := 105) rfl)
theorem kq_2_106 : Cond.instanceMethod (⟨"java/lang/Throwable", "fillInStackTrace", "(I)Ljava/lang/Throwable;"⟩ : MethodName) ∈ kAL := List.mem_filter.mpr ⟨kin_t2 _ (List.mem_of_getElem? (i := 106) rfl), rfl⟩
theorem kq_2_107 : Cond.instantiable "java/lang/Throwable" 6 ∈ kAL := List.mem_filter.mpr ⟨kin_t2 _ (List.mem_of_getElem? (i := 107) rfl), rfl⟩
theorem kq_2_108 : Cond.native (⟨"java/lang/Throwable", "fillInStackTrace", "(I)Ljava/lang/Throwable;"⟩ : MethodName) ∈ lw_tbl := kin_t2 _ (List.mem_of_getElem? (i := 108) rfl)
theorem kq_2_109 : Cond.methodLink "Parserpark" 60 (⟨"java/lang/IllegalArgumentException", "<init>", "()V"⟩ : MethodName) ∈ kAL := List.mem_filter.mpr ⟨kin_t2 _ (List.mem_of_getElem? (i := 109) rfl), rfl⟩
theorem kq_2_110 : Cond.instanceMethod (⟨"java/lang/IllegalArgumentException", "<init>", "()V"⟩ : MethodName) ∈ kAL := List.mem_filter.mpr ⟨kin_t2 _ (List.mem_of_getElem? (i := 110) rfl), rfl⟩
theorem kq_2_111 : Cond.code (⟨"java/lang/IllegalArgumentException", "<init>", "()V"⟩ : MethodName) prog_14_method_1_code 1 (none : Option Jvm.ClassFile.FieldType) ∈ kAL := List.mem_filter.mpr ⟨kin_t2 _ (List.mem_of_getElem? (i := 111) rfl), rfl⟩
theorem kq_2_112 : Cond.methodLink "java/lang/IllegalArgumentException" 1 (⟨"java/lang/RuntimeException", "<init>", "()V"⟩ : MethodName) ∈ kAL := List.mem_filter.mpr ⟨kin_t2 _ (List.mem_of_getElem? (i := 112) rfl), rfl⟩
theorem kq_2_113 : Cond.instanceMethod (⟨"java/lang/RuntimeException", "<init>", "()V"⟩ : MethodName) ∈ kAL := List.mem_filter.mpr ⟨kin_t2 _ (List.mem_of_getElem? (i := 113) rfl), rfl⟩
theorem kq_2_114 : Cond.code (⟨"java/lang/RuntimeException", "<init>", "()V"⟩ : MethodName) prog_18_method_1_code 1 (none : Option Jvm.ClassFile.FieldType) ∈ kAL := List.mem_filter.mpr ⟨kin_t2 _ (List.mem_of_getElem? (i := 114) rfl), rfl⟩
theorem kq_2_115 : Cond.methodLink "java/lang/RuntimeException" 1 (⟨"java/lang/Exception", "<init>", "()V"⟩ : MethodName) ∈ kAL := List.mem_filter.mpr ⟨kin_t2 _ (List.mem_of_getElem? (i := 115) rfl), rfl⟩
theorem kq_2_116 : Cond.instanceMethod (⟨"java/lang/Exception", "<init>", "()V"⟩ : MethodName) ∈ kAL := List.mem_filter.mpr ⟨kin_t2 _ (List.mem_of_getElem? (i := 116) rfl), rfl⟩
theorem kq_2_117 : Cond.code (⟨"java/lang/Exception", "<init>", "()V"⟩ : MethodName) prog_13_method_1_code 1 (none : Option Jvm.ClassFile.FieldType) ∈ kAL := List.mem_filter.mpr ⟨kin_t2 _ (List.mem_of_getElem? (i := 117) rfl), rfl⟩
theorem kq_2_118 : Cond.methodLink "java/lang/Exception" 1 (⟨"java/lang/Throwable", "<init>", "()V"⟩ : MethodName) ∈ kAL := List.mem_filter.mpr ⟨kin_t2 _ (List.mem_of_getElem? (i := 118) rfl), rfl⟩
theorem kq_2_120 : Cond.fieldLink "java/lang/Throwable" 31 "java/lang/Throwable" "detailMessage" "Ljava/lang/String;" ∈ kAL := List.mem_filter.mpr ⟨kin_t2 _ (List.mem_of_getElem? (i := 120) rfl), rfl⟩
theorem kq_2_121 : Cond.fieldLink "java/lang/Throwable" 7 "java/lang/Throwable" "cause" "Ljava/lang/Throwable;" ∈ kAL := List.mem_filter.mpr ⟨kin_t2 _ (List.mem_of_getElem? (i := 121) rfl), rfl⟩
theorem kq_2_122 : Cond.fieldLink "java/lang/Throwable" 17 "java/lang/Throwable" "stackTrace" "[Ljava/lang/StackTraceElement;" ∈ kAL := List.mem_filter.mpr ⟨kin_t2 _ (List.mem_of_getElem? (i := 122) rfl), rfl⟩
theorem kq_2_123 : Cond.fieldLink "java/lang/Throwable" 24 "java/lang/Throwable" "suppressedExceptions" "Ljava/util/List;" ∈ kAL := List.mem_filter.mpr ⟨kin_t2 _ (List.mem_of_getElem? (i := 123) rfl), rfl⟩
theorem kq_2_124 : Cond.soleField "java/lang/Throwable" "backtrace" ∈ lw_tbl := kin_t2 _ (List.mem_of_getElem? (i := 124) rfl)
theorem kq_2_125 : Cond.soleField "java/lang/Throwable" "detailMessage" ∈ lw_tbl := kin_t2 _ (List.mem_of_getElem? (i := 125) rfl)
theorem kq_2_126 : Cond.soleField "java/lang/Throwable" "cause" ∈ lw_tbl := kin_t2 _ (List.mem_of_getElem? (i := 126) rfl)
theorem kq_2_127 : Cond.soleField "java/lang/Throwable" "stackTrace" ∈ lw_tbl := kin_t2 _ (List.mem_of_getElem? (i := 127) rfl)
theorem kq_2_128 : Cond.lays "java/lang/IllegalArgumentException" "java/lang/Throwable" "depth" "I" ∈ kAL := List.mem_filter.mpr ⟨kin_t2 _ (List.mem_of_getElem? (i := 128) rfl), rfl⟩
theorem kq_2_129 : Cond.soleField "java/lang/Throwable" "depth" ∈ lw_tbl := kin_t2 _ (List.mem_of_getElem? (i := 129) rfl)
theorem kq_2_130 : Cond.soleField "java/lang/Throwable" "suppressedExceptions" ∈ lw_tbl := kin_t2 _ (List.mem_of_getElem? (i := 130) rfl)
theorem kq_2_131 : Cond.superclass "java/lang/IllegalArgumentException" "java/lang/RuntimeException" ∈ lw_tbl := kin_t2 _ (List.mem_of_getElem? (i := 131) rfl)
theorem kq_2_132 : Cond.methodLink "Parserpark" 61 yX0_hasRoom ∈ kAL := List.mem_filter.mpr ⟨kin_t2 _ (List.mem_of_getElem? (i := 132) rfl), rfl⟩
theorem kq_2_133 : Cond.instanceMethod yX0_hasRoom ∈ kAL := List.mem_filter.mpr ⟨kin_t2 _ (List.mem_of_getElem? (i := 133) rfl), rfl⟩
theorem kq_2_134 : Cond.selects "Parserpark$Grammar" yX0_hasRoom yX0_hasRoom ∈ kAL := List.mem_filter.mpr ⟨kin_t2 _ (List.mem_of_getElem? (i := 134) rfl), rfl⟩
theorem kq_2_135 : Cond.code yX0_hasRoom prog_2_method_2_code 1 (some .boolean) ∈ kAL := List.mem_filter.mpr ⟨kin_t2 _ (List.mem_of_getElem? (i := 135) rfl), rfl⟩
theorem kq_2_136 : Cond.classLink "Parserpark" 65 "java/lang/IllegalStateException" ∈ kAL := List.mem_filter.mpr ⟨kin_t2 _ (List.mem_of_getElem? (i := 136) rfl), rfl⟩
theorem kq_2_137 : Cond.instantiable "java/lang/IllegalStateException" 6 ∈ kAL := List.mem_filter.mpr ⟨kin_t2 _ (List.mem_of_getElem? (i := 137) rfl), rfl⟩
theorem kq_2_138 : Cond.castable "java/lang/IllegalStateException" "java/lang/IllegalStateException" ∈ kBL := List.mem_filter.mpr ⟨kin_t2 _ (List.mem_of_getElem? (i := 138) rfl), rfl⟩
theorem kq_2_139 : Cond.selects "java/lang/IllegalStateException" (⟨"java/lang/Throwable", "fillInStackTrace", "(I)Ljava/lang/Throwable;"⟩ : MethodName) (⟨"java/lang/Throwable", "fillInStackTrace", "(I)Ljava/lang/Throwable;"⟩ : MethodName) ∈ kAL := List.mem_filter.mpr ⟨kin_t2 _ (List.mem_of_getElem? (i := 139) rfl), rfl⟩
theorem kq_2_140 : Cond.lays "java/lang/IllegalStateException" "java/lang/Throwable" "cause" "Ljava/lang/Throwable;" ∈ kAL := List.mem_filter.mpr ⟨kin_t2 _ (List.mem_of_getElem? (i := 140) rfl), rfl⟩
theorem kq_2_141 : Cond.lays "java/lang/IllegalStateException" "java/lang/Throwable" "stackTrace" "[Ljava/lang/StackTraceElement;" ∈ kAL := List.mem_filter.mpr ⟨kin_t2 _ (List.mem_of_getElem? (i := 141) rfl), rfl⟩
theorem kq_2_142 : Cond.lays "java/lang/IllegalStateException" "java/lang/Throwable" "suppressedExceptions" "Ljava/util/List;" ∈ kAL := List.mem_filter.mpr ⟨kin_t2 _ (List.mem_of_getElem? (i := 142) rfl), rfl⟩
theorem kq_2_143 : Cond.lays "java/lang/IllegalStateException" "java/lang/Throwable" "detailMessage" "Ljava/lang/String;" ∈ kAL := List.mem_filter.mpr ⟨kin_t2 _ (List.mem_of_getElem? (i := 143) rfl), rfl⟩
theorem kq_2_144 : Cond.lays "java/lang/IllegalStateException" "java/lang/Throwable" "backtrace" "Ljava/lang/Object;" ∈ kAL := List.mem_filter.mpr ⟨kin_t2 _ (List.mem_of_getElem? (i := 144) rfl), rfl⟩
theorem kq_2_145 : Cond.methodLink "Parserpark" 67 (⟨"java/lang/IllegalStateException", "<init>", "()V"⟩ : MethodName) ∈ kAL := List.mem_filter.mpr ⟨kin_t2 _ (List.mem_of_getElem? (i := 145) rfl), rfl⟩
theorem kq_2_146 : Cond.instanceMethod (⟨"java/lang/IllegalStateException", "<init>", "()V"⟩ : MethodName) ∈ kAL := List.mem_filter.mpr ⟨kin_t2 _ (List.mem_of_getElem? (i := 146) rfl), rfl⟩
theorem kq_2_147 : Cond.code (⟨"java/lang/IllegalStateException", "<init>", "()V"⟩ : MethodName) prog_15_method_1_code 1 (none : Option Jvm.ClassFile.FieldType) ∈ kAL := List.mem_filter.mpr ⟨kin_t2 _ (List.mem_of_getElem? (i := 147) rfl), rfl⟩
theorem kq_2_148 : Cond.methodLink "java/lang/IllegalStateException" 1 (⟨"java/lang/RuntimeException", "<init>", "()V"⟩ : MethodName) ∈ kAL := List.mem_filter.mpr ⟨kin_t2 _ (List.mem_of_getElem? (i := 148) rfl), rfl⟩
theorem kq_2_149 : Cond.lays "java/lang/IllegalStateException" "java/lang/Throwable" "depth" "I" ∈ kAL := List.mem_filter.mpr ⟨kin_t2 _ (List.mem_of_getElem? (i := 149) rfl), rfl⟩
theorem kq_2_150 : Cond.superclass "java/lang/IllegalStateException" "java/lang/RuntimeException" ∈ lw_tbl := kin_t2 _ (List.mem_of_getElem? (i := 150) rfl)
theorem kq_2_151 : Cond.classLink "Parserpark" 68 "Parserpark$Rule" ∈ kAL := List.mem_filter.mpr ⟨kin_t2 _ (List.mem_of_getElem? (i := 151) rfl), rfl⟩
theorem kq_2_152 : Cond.instantiable "Parserpark$Rule" 9 ∈ kAL := List.mem_filter.mpr ⟨kin_t2 _ (List.mem_of_getElem? (i := 152) rfl), rfl⟩
theorem kq_2_153 : Cond.methodLink "Parserpark" 73 yX2_init ∈ kAL := List.mem_filter.mpr ⟨kin_t2 _ (List.mem_of_getElem? (i := 153) rfl), rfl⟩
theorem kq_2_154 : Cond.instanceMethod yX2_init ∈ kAL := List.mem_filter.mpr ⟨kin_t2 _ (List.mem_of_getElem? (i := 154) rfl), rfl⟩
theorem kq_2_155 : Cond.code yX2_init prog_4_method_1_code 6 (none : Option Jvm.ClassFile.FieldType) ∈ kAL := List.mem_filter.mpr ⟨kin_t2 _ (List.mem_of_getElem? (i := 155) rfl), rfl⟩
theorem kq_2_156 : Cond.methodLink "Parserpark$Rule" 1 (⟨"java/lang/Object", "<init>", "()V"⟩ : MethodName) ∈ kAL := List.mem_filter.mpr ⟨kin_t2 _ (List.mem_of_getElem? (i := 156) rfl), rfl⟩
theorem kq_2_157 : Cond.fieldLink "Parserpark$Rule" 23 "Parserpark$Rule" "number" "I" ∈ kAL := List.mem_filter.mpr ⟨kin_t2 _ (List.mem_of_getElem? (i := 157) rfl), rfl⟩
theorem kq_2_158 : Cond.fieldLink "Parserpark" 84 "Parserpark$Rule" "number" "I" ∈ kAL := List.mem_filter.mpr ⟨kin_t2 _ (List.mem_of_getElem? (i := 158) rfl), rfl⟩
theorem kq_2_159 : Cond.fieldLink "Parserpark$Layout" 92 "Parserpark$Rule" "number" "I" ∈ kAL := List.mem_filter.mpr ⟨kin_t2 _ (List.mem_of_getElem? (i := 159) rfl), rfl⟩
theorem kq_2_160 : Cond.fieldLink "Parserpark$Rule" 26 "Parserpark$Rule" "left" "I" ∈ kAL := List.mem_filter.mpr ⟨kin_t2 _ (List.mem_of_getElem? (i := 160) rfl), rfl⟩
theorem kq_2_161 : Cond.fieldLink "Parserpark$Trial" 44 "Parserpark$Rule" "left" "I" ∈ kAL := List.mem_filter.mpr ⟨kin_t2 _ (List.mem_of_getElem? (i := 161) rfl), rfl⟩
theorem kq_2_162 : Cond.fieldLink "Parserpark$Grammar" 29 "Parserpark$Rule" "left" "I" ∈ kAL := List.mem_filter.mpr ⟨kin_t2 _ (List.mem_of_getElem? (i := 162) rfl), rfl⟩
theorem kq_2_163 : Cond.fieldLink "Parserpark$Spans" 76 "Parserpark$Rule" "left" "I" ∈ kAL := List.mem_filter.mpr ⟨kin_t2 _ (List.mem_of_getElem? (i := 163) rfl), rfl⟩
theorem kq_2_164 : Cond.fieldLink "Parserpark$Rule" 29 "Parserpark$Rule" "first" "I" ∈ kAL := List.mem_filter.mpr ⟨kin_t2 _ (List.mem_of_getElem? (i := 164) rfl), rfl⟩
theorem kq_2_165 : Cond.fieldLink "Parserpark$Trial" 60 "Parserpark$Rule" "first" "I" ∈ kAL := List.mem_filter.mpr ⟨kin_t2 _ (List.mem_of_getElem? (i := 165) rfl), rfl⟩
theorem kq_2_166 : Cond.fieldLink "Parserpark$Layout" 117 "Parserpark$Rule" "first" "I" ∈ kAL := List.mem_filter.mpr ⟨kin_t2 _ (List.mem_of_getElem? (i := 166) rfl), rfl⟩
theorem kq_2_167 : Cond.fieldLink "Parserpark$Spans" 42 "Parserpark$Rule" "first" "I" ∈ kAL := List.mem_filter.mpr ⟨kin_t2 _ (List.mem_of_getElem? (i := 167) rfl), rfl⟩
theorem kq_2_168 : Cond.fieldLink "Parserpark$Rule" 32 "Parserpark$Rule" "second" "I" ∈ kAL := List.mem_filter.mpr ⟨kin_t2 _ (List.mem_of_getElem? (i := 168) rfl), rfl⟩
theorem kq_2_169 : Cond.fieldLink "Parserpark$Trial" 57 "Parserpark$Rule" "second" "I" ∈ kAL := List.mem_filter.mpr ⟨kin_t2 _ (List.mem_of_getElem? (i := 169) rfl), rfl⟩
theorem kq_2_170 : Cond.fieldLink "Parserpark$Layout" 114 "Parserpark$Rule" "second" "I" ∈ kAL := List.mem_filter.mpr ⟨kin_t2 _ (List.mem_of_getElem? (i := 170) rfl), rfl⟩
theorem kq_2_171 : Cond.fieldLink "Parserpark$Spans" 51 "Parserpark$Rule" "second" "I" ∈ kAL := List.mem_filter.mpr ⟨kin_t2 _ (List.mem_of_getElem? (i := 171) rfl), rfl⟩
theorem kq_2_172 : Cond.fieldLink "Parserpark$Rule" 35 "Parserpark$Rule" "third" "I" ∈ kAL := List.mem_filter.mpr ⟨kin_t2 _ (List.mem_of_getElem? (i := 172) rfl), rfl⟩
theorem kq_2_173 : Cond.fieldLink "Parserpark$Trial" 69 "Parserpark$Rule" "third" "I" ∈ kAL := List.mem_filter.mpr ⟨kin_t2 _ (List.mem_of_getElem? (i := 173) rfl), rfl⟩
theorem kq_2_174 : Cond.fieldLink "Parserpark$Layout" 104 "Parserpark$Rule" "third" "I" ∈ kAL := List.mem_filter.mpr ⟨kin_t2 _ (List.mem_of_getElem? (i := 174) rfl), rfl⟩
theorem kq_2_175 : Cond.fieldLink "Parserpark$Spans" 54 "Parserpark$Rule" "third" "I" ∈ kAL := List.mem_filter.mpr ⟨kin_t2 _ (List.mem_of_getElem? (i := 175) rfl), rfl⟩
theorem kq_2_176 : Cond.fieldLink "Parserpark$Rule" 7 "Parserpark$Rule" "rank" "I" ∈ kAL := List.mem_filter.mpr ⟨kin_t2 _ (List.mem_of_getElem? (i := 176) rfl), rfl⟩
theorem kq_2_177 : Cond.fieldLink "Parserpark" 99 "Parserpark$Rule" "rank" "I" ∈ kAL := List.mem_filter.mpr ⟨kin_t2 _ (List.mem_of_getElem? (i := 177) rfl), rfl⟩
theorem kq_2_178 : Cond.fieldLink "Parserpark$Grammar" 32 "Parserpark$Rule" "rank" "I" ∈ kAL := List.mem_filter.mpr ⟨kin_t2 _ (List.mem_of_getElem? (i := 178) rfl), rfl⟩
theorem kq_2_179 : Cond.fieldLink "Parserpark$Rule" 13 "Parserpark$Rule" "colour" "I" ∈ kAL := List.mem_filter.mpr ⟨kin_t2 _ (List.mem_of_getElem? (i := 179) rfl), rfl⟩
theorem kq_2_180 : Cond.fieldLink "Parserpark$Layout" 97 "Parserpark$Rule" "colour" "I" ∈ kAL := List.mem_filter.mpr ⟨kin_t2 _ (List.mem_of_getElem? (i := 180) rfl), rfl⟩
theorem kq_2_181 : Cond.fieldLink "Parserpark" 102 "Parserpark$Rule" "colour" "I" ∈ kAL := List.mem_filter.mpr ⟨kin_t2 _ (List.mem_of_getElem? (i := 181) rfl), rfl⟩
theorem kq_2_182 : Cond.fieldLink "Parserpark$Rule" 16 "Parserpark$Rule" "gap" "I" ∈ kAL := List.mem_filter.mpr ⟨kin_t2 _ (List.mem_of_getElem? (i := 182) rfl), rfl⟩
theorem kq_2_183 : Cond.fieldLink "Parserpark" 105 "Parserpark$Rule" "gap" "I" ∈ kAL := List.mem_filter.mpr ⟨kin_t2 _ (List.mem_of_getElem? (i := 183) rfl), rfl⟩
theorem kq_2_184 : Cond.fieldLink "Parserpark$Layout" 107 "Parserpark$Rule" "gap" "I" ∈ kAL := List.mem_filter.mpr ⟨kin_t2 _ (List.mem_of_getElem? (i := 184) rfl), rfl⟩
theorem kq_2_185 : Cond.fieldLink "Parserpark$Rule" 19 "Parserpark$Rule" "gone" "Z" ∈ kAL := List.mem_filter.mpr ⟨kin_t2 _ (List.mem_of_getElem? (i := 185) rfl), rfl⟩
theorem kq_2_186 : Cond.fieldLink "Parserpark" 91 "Parserpark$Rule" "gone" "Z" ∈ kAL := List.mem_filter.mpr ⟨kin_t2 _ (List.mem_of_getElem? (i := 186) rfl), rfl⟩
theorem kq_2_187 : Cond.fieldLink "Parserpark$Grammar" 21 "Parserpark$Rule" "gone" "Z" ∈ kAL := List.mem_filter.mpr ⟨kin_t2 _ (List.mem_of_getElem? (i := 187) rfl), rfl⟩
theorem kq_2_188 : Cond.laysFinal "Parserpark$Rule" "Parserpark$Rule" "number" "I" ∈ kAL := List.mem_filter.mpr ⟨kin_t2 _ (List.mem_of_getElem? (i := 188) rfl), rfl⟩
theorem kq_2_189 : Cond.soleField "Parserpark$Rule" "number" ∈ lw_tbl := kin_t2 _ (List.mem_of_getElem? (i := 189) rfl)
theorem kq_2_190 : Cond.laysFinal "Parserpark$Rule" "Parserpark$Rule" "left" "I" ∈ kAL := List.mem_filter.mpr ⟨kin_t2 _ (List.mem_of_getElem? (i := 190) rfl), rfl⟩
theorem kq_2_191 : Cond.soleField "Parserpark$Rule" "left" ∈ lw_tbl := kin_t2 _ (List.mem_of_getElem? (i := 191) rfl)
theorem kq_2_192 : Cond.laysFinal "Parserpark$Rule" "Parserpark$Rule" "first" "I" ∈ kAL := List.mem_filter.mpr ⟨kin_t2 _ (List.mem_of_getElem? (i := 192) rfl), rfl⟩
theorem kq_2_193 : Cond.soleField "Parserpark$Rule" "first" ∈ lw_tbl := kin_t2 _ (List.mem_of_getElem? (i := 193) rfl)
theorem kq_2_194 : Cond.laysFinal "Parserpark$Rule" "Parserpark$Rule" "second" "I" ∈ kAL := List.mem_filter.mpr ⟨kin_t2 _ (List.mem_of_getElem? (i := 194) rfl), rfl⟩
theorem kq_2_195 : Cond.soleField "Parserpark$Rule" "second" ∈ lw_tbl := kin_t2 _ (List.mem_of_getElem? (i := 195) rfl)
theorem kq_2_196 : Cond.laysFinal "Parserpark$Rule" "Parserpark$Rule" "third" "I" ∈ kAL := List.mem_filter.mpr ⟨kin_t2 _ (List.mem_of_getElem? (i := 196) rfl), rfl⟩
theorem kq_2_197 : Cond.soleField "Parserpark$Rule" "third" ∈ lw_tbl := kin_t2 _ (List.mem_of_getElem? (i := 197) rfl)
theorem kq_2_198 : Cond.lays "Parserpark$Rule" "Parserpark$Rule" "rank" "I" ∈ kAL := List.mem_filter.mpr ⟨kin_t2 _ (List.mem_of_getElem? (i := 198) rfl), rfl⟩
theorem kq_2_199 : Cond.soleField "Parserpark$Rule" "rank" ∈ lw_tbl := kin_t2 _ (List.mem_of_getElem? (i := 199) rfl)
theorem kq_2_200 : Cond.lays "Parserpark$Rule" "Parserpark$Rule" "colour" "I" ∈ kAL := List.mem_filter.mpr ⟨kin_t2 _ (List.mem_of_getElem? (i := 200) rfl), rfl⟩
theorem kq_2_201 : Cond.soleField "Parserpark$Rule" "colour" ∈ lw_tbl := kin_t2 _ (List.mem_of_getElem? (i := 201) rfl)
theorem kq_2_202 : Cond.lays "Parserpark$Rule" "Parserpark$Rule" "gap" "I" ∈ kAL := List.mem_filter.mpr ⟨kin_t2 _ (List.mem_of_getElem? (i := 202) rfl), rfl⟩
theorem kq_2_203 : Cond.soleField "Parserpark$Rule" "gap" ∈ lw_tbl := kin_t2 _ (List.mem_of_getElem? (i := 203) rfl)
theorem kq_2_204 : Cond.lays "Parserpark$Rule" "Parserpark$Rule" "gone" "Z" ∈ kAL := List.mem_filter.mpr ⟨kin_t2 _ (List.mem_of_getElem? (i := 204) rfl), rfl⟩
theorem kq_2_205 : Cond.soleField "Parserpark$Rule" "gone" ∈ lw_tbl := kin_t2 _ (List.mem_of_getElem? (i := 205) rfl)
theorem kq_2_206 : Cond.superclass "Parserpark$Rule" "java/lang/Object" ∈ lw_tbl := kin_t2 _ (List.mem_of_getElem? (i := 206) rfl)
theorem kq_2_207 : Cond.methodLink "Parserpark" 76 yX0_put ∈ kAL := List.mem_filter.mpr ⟨kin_t2 _ (List.mem_of_getElem? (i := 207) rfl), rfl⟩
theorem kq_2_208 : Cond.instanceMethod yX0_put ∈ kAL := List.mem_filter.mpr ⟨kin_t2 _ (List.mem_of_getElem? (i := 208) rfl), rfl⟩
theorem kq_2_209 : Cond.selects "Parserpark$Grammar" yX0_put yX0_put ∈ kAL := List.mem_filter.mpr ⟨kin_t2 _ (List.mem_of_getElem? (i := 209) rfl), rfl⟩
theorem kq_2_210 : Cond.code yX0_put prog_2_method_3_code 2 (none : Option Jvm.ClassFile.FieldType) ∈ kAL := List.mem_filter.mpr ⟨kin_t2 _ (List.mem_of_getElem? (i := 210) rfl), rfl⟩
theorem kq_2_211 : Cond.methodLink "Parserpark" 80 yX6_findTouchedBy ∈ kAL := List.mem_filter.mpr ⟨kin_t2 _ (List.mem_of_getElem? (i := 211) rfl), rfl⟩
theorem kq_2_212 : Cond.privateMethod yX6_findTouchedBy ∈ lw_tbl := kin_t2 _ (List.mem_of_getElem? (i := 212) rfl)
theorem kq_2_213 : Cond.instanceMethod yX6_findTouchedBy ∈ kAL := List.mem_filter.mpr ⟨kin_t2 _ (List.mem_of_getElem? (i := 213) rfl), rfl⟩
theorem kq_2_214 : Cond.code yX6_findTouchedBy prog_1_method_42_code 7 (some .int) ∈ kAL := List.mem_filter.mpr ⟨kin_t2 _ (List.mem_of_getElem? (i := 214) rfl), rfl⟩
theorem kq_2_215 : Cond.methodLink "Parserpark" 225 yX3_hasLettersOf ∈ kAL := List.mem_filter.mpr ⟨kin_t2 _ (List.mem_of_getElem? (i := 215) rfl), rfl⟩
theorem kq_2_216 : Cond.instanceMethod yX3_hasLettersOf ∈ kAL := List.mem_filter.mpr ⟨kin_t2 _ (List.mem_of_getElem? (i := 216) rfl), rfl⟩
theorem kq_2_217 : Cond.selects "Parserpark$Spans" yX3_hasLettersOf yX3_hasLettersOf ∈ kAL := List.mem_filter.mpr ⟨kin_t2 _ (List.mem_of_getElem? (i := 217) rfl), rfl⟩
theorem kq_2_218 : Cond.code yX3_hasLettersOf prog_5_method_8_code 2 (some .boolean) ∈ kAL := List.mem_filter.mpr ⟨kin_t2 _ (List.mem_of_getElem? (i := 218) rfl), rfl⟩
theorem kq_2_219 : Cond.methodLink "Parserpark$Spans" 47 yX3_hasIfLetter ∈ kAL := List.mem_filter.mpr ⟨kin_t2 _ (List.mem_of_getElem? (i := 219) rfl), rfl⟩
theorem kq_2_220 : Cond.privateMethod yX3_hasIfLetter ∈ lw_tbl := kin_t2 _ (List.mem_of_getElem? (i := 220) rfl)
theorem kq_2_221 : Cond.instanceMethod yX3_hasIfLetter ∈ kAL := List.mem_filter.mpr ⟨kin_t2 _ (List.mem_of_getElem? (i := 221) rfl), rfl⟩
theorem kq_2_222 : Cond.code yX3_hasIfLetter prog_5_method_9_code 3 (some .boolean) ∈ kAL := List.mem_filter.mpr ⟨kin_t2 _ (List.mem_of_getElem? (i := 222) rfl), rfl⟩
theorem kq_2_223 : Cond.methodLinkNest "Parserpark$Spans" 57 yX6_isLetter "Parserpark" ∈ kBL := List.mem_filter.mpr ⟨kin_t2 _ (List.mem_of_getElem? (i := 223) rfl), rfl⟩
theorem kq_2_224 : Cond.methodLink "ParserparkLaw" 118 yL_dropRule ∈ kAL := List.mem_filter.mpr ⟨kin_t2 _ (List.mem_of_getElem? (i := 224) rfl), rfl⟩
theorem kq_2_225 : Cond.static yL_dropRule ∈ kAL := List.mem_filter.mpr ⟨kin_t2 _ (List.mem_of_getElem? (i := 225) rfl), rfl⟩
theorem kq_2_226 : Cond.codeWith yL_dropRule method_4_code 4 (some .int) [(0, 9, 12, 21)] ∈ kAL := List.mem_filter.mpr ⟨kin_t2 _ (List.mem_of_getElem? (i := 226) rfl), rfl⟩
theorem kq_2_227 : Cond.classLink "ParserparkLaw" 21 "java/util/NoSuchElementException" ∈ kAL := List.mem_filter.mpr ⟨kin_t2 _ (List.mem_of_getElem? (i := 227) rfl), rfl⟩
theorem kq_2_228 : Cond.methodLink "ParserparkLaw" 17 yX6_dropRule ∈ kAL := List.mem_filter.mpr ⟨kin_t2 _ (List.mem_of_getElem? (i := 228) rfl), rfl⟩
theorem kq_2_229 : Cond.instanceMethod yX6_dropRule ∈ kAL := List.mem_filter.mpr ⟨kin_t2 _ (List.mem_of_getElem? (i := 229) rfl), rfl⟩
theorem kq_2_230 : Cond.selects "Parserpark" yX6_dropRule yX6_dropRule ∈ kAL := List.mem_filter.mpr ⟨kin_t2 _ (List.mem_of_getElem? (i := 230) rfl), rfl⟩
theorem kq_2_231 : Cond.code yX6_dropRule prog_1_method_3_code 3 (some .int) ∈ kAL := List.mem_filter.mpr ⟨kin_t2 _ (List.mem_of_getElem? (i := 231) rfl), rfl⟩
theorem kq_2_232 : Cond.methodLink "Parserpark" 87 yX6_existingRule ∈ kAL := List.mem_filter.mpr ⟨kin_t2 _ (List.mem_of_getElem? (i := 232) rfl), rfl⟩
theorem kq_2_233 : Cond.privateMethod yX6_existingRule ∈ lw_tbl := kin_t2 _ (List.mem_of_getElem? (i := 233) rfl)
theorem kq_2_234 : Cond.instanceMethod yX6_existingRule ∈ kAL := List.mem_filter.mpr ⟨kin_t2 _ (List.mem_of_getElem? (i := 234) rfl), rfl⟩
theorem kq_2_235 : Cond.code yX6_existingRule prog_1_method_39_code 3 (some (.object "Parserpark$Rule")) ∈ kAL := List.mem_filter.mpr ⟨kin_t2 _ (List.mem_of_getElem? (i := 235) rfl), rfl⟩
theorem kq_2_236 : Cond.methodLink "Parserpark" 222 yX0_liveRule ∈ kAL := List.mem_filter.mpr ⟨kin_t2 _ (List.mem_of_getElem? (i := 236) rfl), rfl⟩
theorem kq_2_237 : Cond.classLink "Parserpark" 168 "java/util/NoSuchElementException" ∈ kAL := List.mem_filter.mpr ⟨kin_t2 _ (List.mem_of_getElem? (i := 237) rfl), rfl⟩
theorem kq_2_238 : Cond.instantiable "java/util/NoSuchElementException" 6 ∈ kAL := List.mem_filter.mpr ⟨kin_t2 _ (List.mem_of_getElem? (i := 238) rfl), rfl⟩
theorem kq_2_239 : Cond.castable "java/util/NoSuchElementException" "java/util/NoSuchElementException" ∈ kBL := List.mem_filter.mpr ⟨kin_t2 _ (List.mem_of_getElem? (i := 239) rfl), rfl⟩
theorem kq_3_0 : Cond.selects "java/util/NoSuchElementException" (⟨"java/lang/Throwable", "fillInStackTrace", "(I)Ljava/lang/Throwable;"⟩ : MethodName) (⟨"java/lang/Throwable", "fillInStackTrace", "(I)Ljava/lang/Throwable;"⟩ : MethodName) ∈ kAL := List.mem_filter.mpr ⟨kin_t3 _ (List.mem_of_getElem? (i := 0) rfl), rfl⟩
theorem kq_3_1 : Cond.lays "java/util/NoSuchElementException" "java/lang/Throwable" "cause" "Ljava/lang/Throwable;" ∈ kAL := List.mem_filter.mpr ⟨kin_t3 _ (List.mem_of_getElem? (i := 1) rfl), rfl⟩
theorem kq_3_2 : Cond.lays "java/util/NoSuchElementException" "java/lang/Throwable" "stackTrace" "[Ljava/lang/StackTraceElement;" ∈ kAL := List.mem_filter.mpr ⟨kin_t3 _ (List.mem_of_getElem? (i := 2) rfl), rfl⟩
theorem kq_3_3 : Cond.lays "java/util/NoSuchElementException" "java/lang/Throwable" "suppressedExceptions" "Ljava/util/List;" ∈ kAL := List.mem_filter.mpr ⟨kin_t3 _ (List.mem_of_getElem? (i := 3) rfl), rfl⟩
theorem kq_3_4 : Cond.lays "java/util/NoSuchElementException" "java/lang/Throwable" "detailMessage" "Ljava/lang/String;" ∈ kAL := List.mem_filter.mpr ⟨kin_t3 _ (List.mem_of_getElem? (i := 4) rfl), rfl⟩
theorem kq_3_5 : Cond.lays "java/util/NoSuchElementException" "java/lang/Throwable" "backtrace" "Ljava/lang/Object;" ∈ kAL := List.mem_filter.mpr ⟨kin_t3 _ (List.mem_of_getElem? (i := 5) rfl), rfl⟩
theorem kq_3_6 : Cond.methodLink "Parserpark" 170 (⟨"java/util/NoSuchElementException", "<init>", "()V"⟩ : MethodName) ∈ kAL := List.mem_filter.mpr ⟨kin_t3 _ (List.mem_of_getElem? (i := 6) rfl), rfl⟩
theorem kq_3_7 : Cond.instanceMethod (⟨"java/util/NoSuchElementException", "<init>", "()V"⟩ : MethodName) ∈ kAL := List.mem_filter.mpr ⟨kin_t3 _ (List.mem_of_getElem? (i := 7) rfl), rfl⟩
theorem kq_3_8 : Cond.code (⟨"java/util/NoSuchElementException", "<init>", "()V"⟩ : MethodName) prog_23_method_1_code 1 (none : Option Jvm.ClassFile.FieldType) ∈ kAL := List.mem_filter.mpr ⟨kin_t3 _ (List.mem_of_getElem? (i := 8) rfl), rfl⟩
theorem kq_3_9 : Cond.methodLink "java/util/NoSuchElementException" 1 (⟨"java/lang/RuntimeException", "<init>", "()V"⟩ : MethodName) ∈ kAL := List.mem_filter.mpr ⟨kin_t3 _ (List.mem_of_getElem? (i := 9) rfl), rfl⟩
theorem kq_3_10 : Cond.lays "java/util/NoSuchElementException" "java/lang/Throwable" "depth" "I" ∈ kAL := List.mem_filter.mpr ⟨kin_t3 _ (List.mem_of_getElem? (i := 10) rfl), rfl⟩
theorem kq_3_11 : Cond.superclass "java/util/NoSuchElementException" "java/lang/RuntimeException" ∈ lw_tbl := kin_t3 _ (List.mem_of_getElem? (i := 11) rfl)
theorem kq_3_12 : Cond.methodLink "ParserparkLaw" 122 yL_setRank ∈ kAL := List.mem_filter.mpr ⟨kin_t3 _ (List.mem_of_getElem? (i := 12) rfl), rfl⟩
theorem kq_3_13 : Cond.static yL_setRank ∈ kAL := List.mem_filter.mpr ⟨kin_t3 _ (List.mem_of_getElem? (i := 13) rfl), rfl⟩
theorem kq_3_14 : Cond.codeWith yL_setRank method_5_code 5 (some .int) [(0, 10, 13, 21), (0, 10, 17, 13)] ∈ kAL := List.mem_filter.mpr ⟨kin_t3 _ (List.mem_of_getElem? (i := 14) rfl), rfl⟩
theorem kq_3_15 : Cond.methodLink "ParserparkLaw" 23 yX6_setRank ∈ kAL := List.mem_filter.mpr ⟨kin_t3 _ (List.mem_of_getElem? (i := 15) rfl), rfl⟩
theorem kq_3_16 : Cond.instanceMethod yX6_setRank ∈ kAL := List.mem_filter.mpr ⟨kin_t3 _ (List.mem_of_getElem? (i := 16) rfl), rfl⟩
theorem kq_3_17 : Cond.selects "Parserpark" yX6_setRank yX6_setRank ∈ kAL := List.mem_filter.mpr ⟨kin_t3 _ (List.mem_of_getElem? (i := 17) rfl), rfl⟩
theorem kq_3_18 : Cond.code yX6_setRank prog_1_method_4_code 5 (some .int) ∈ kAL := List.mem_filter.mpr ⟨kin_t3 _ (List.mem_of_getElem? (i := 18) rfl), rfl⟩
theorem kq_3_19 : Cond.methodLink "Parserpark" 95 yX6_isWithin ∈ kAL := List.mem_filter.mpr ⟨kin_t3 _ (List.mem_of_getElem? (i := 19) rfl), rfl⟩
theorem kq_3_20 : Cond.static yX6_isWithin ∈ kAL := List.mem_filter.mpr ⟨kin_t3 _ (List.mem_of_getElem? (i := 20) rfl), rfl⟩
theorem kq_3_21 : Cond.code yX6_isWithin prog_1_method_30_code 3 (some .boolean) ∈ kAL := List.mem_filter.mpr ⟨kin_t3 _ (List.mem_of_getElem? (i := 21) rfl), rfl⟩
theorem kq_3_22 : Cond.methodLink "ParserparkLaw" 126 yL_setStyle ∈ kAL := List.mem_filter.mpr ⟨kin_t3 _ (List.mem_of_getElem? (i := 22) rfl), rfl⟩
theorem kq_3_23 : Cond.static yL_setStyle ∈ kAL := List.mem_filter.mpr ⟨kin_t3 _ (List.mem_of_getElem? (i := 23) rfl), rfl⟩
theorem kq_3_24 : Cond.codeWith yL_setStyle method_6_code 6 (some .int) [(0, 12, 15, 21), (0, 12, 19, 13)] ∈ kAL := List.mem_filter.mpr ⟨kin_t3 _ (List.mem_of_getElem? (i := 24) rfl), rfl⟩
theorem kq_3_25 : Cond.methodLink "ParserparkLaw" 27 yX6_setStyle ∈ kAL := List.mem_filter.mpr ⟨kin_t3 _ (List.mem_of_getElem? (i := 25) rfl), rfl⟩
theorem kq_3_26 : Cond.instanceMethod yX6_setStyle ∈ kAL := List.mem_filter.mpr ⟨kin_t3 _ (List.mem_of_getElem? (i := 26) rfl), rfl⟩
theorem kq_3_27 : Cond.selects "Parserpark" yX6_setStyle yX6_setStyle ∈ kAL := List.mem_filter.mpr ⟨kin_t3 _ (List.mem_of_getElem? (i := 27) rfl), rfl⟩
theorem kq_3_28 : Cond.code yX6_setStyle prog_1_method_5_code 6 (some .int) ∈ kAL := List.mem_filter.mpr ⟨kin_t3 _ (List.mem_of_getElem? (i := 28) rfl), rfl⟩
theorem kq_3_29 : Cond.methodLink "ParserparkLaw" 134 yL_addText ∈ kAL := List.mem_filter.mpr ⟨kin_t3 _ (List.mem_of_getElem? (i := 29) rfl), rfl⟩
theorem kq_3_30 : Cond.static yL_addText ∈ kAL := List.mem_filter.mpr ⟨kin_t3 _ (List.mem_of_getElem? (i := 30) rfl), rfl⟩
theorem kq_3_31 : Cond.codeWith yL_addText method_7_code 4 (some .int) [(0, 9, 12, 13), (0, 9, 15, 15)] ∈ kAL := List.mem_filter.mpr ⟨kin_t3 _ (List.mem_of_getElem? (i := 31) rfl), rfl⟩
theorem kq_3_32 : Cond.methodLink "ParserparkLaw" 31 yX6_addText ∈ kAL := List.mem_filter.mpr ⟨kin_t3 _ (List.mem_of_getElem? (i := 32) rfl), rfl⟩
theorem kq_3_33 : Cond.instanceMethod yX6_addText ∈ kAL := List.mem_filter.mpr ⟨kin_t3 _ (List.mem_of_getElem? (i := 33) rfl), rfl⟩
theorem kq_3_34 : Cond.selects "Parserpark" yX6_addText yX6_addText ∈ kAL := List.mem_filter.mpr ⟨kin_t3 _ (List.mem_of_getElem? (i := 34) rfl), rfl⟩
theorem kq_3_35 : Cond.code yX6_addText prog_1_method_7_code 4 (some .int) ∈ kAL := List.mem_filter.mpr ⟨kin_t3 _ (List.mem_of_getElem? (i := 35) rfl), rfl⟩
theorem kq_3_36 : Cond.methodLink "Parserpark" 112 yX6_requireLetter ∈ kAL := List.mem_filter.mpr ⟨kin_t3 _ (List.mem_of_getElem? (i := 36) rfl), rfl⟩
theorem kq_3_37 : Cond.static yX6_requireLetter ∈ kAL := List.mem_filter.mpr ⟨kin_t3 _ (List.mem_of_getElem? (i := 37) rfl), rfl⟩
theorem kq_3_38 : Cond.code yX6_requireLetter prog_1_method_37_code 1 (none : Option Jvm.ClassFile.FieldType) ∈ kAL := List.mem_filter.mpr ⟨kin_t3 _ (List.mem_of_getElem? (i := 38) rfl), rfl⟩
theorem kq_3_39 : Cond.instantiable "Parserpark$Text" 3 ∈ kAL := List.mem_filter.mpr ⟨kin_t3 _ (List.mem_of_getElem? (i := 39) rfl), rfl⟩
theorem kq_3_40 : Cond.methodLinkNest "Parserpark" 116 yX4_init "Parserpark" ∈ kBL := List.mem_filter.mpr ⟨kin_t3 _ (List.mem_of_getElem? (i := 40) rfl), rfl⟩
theorem kq_3_41 : Cond.instanceMethod yX4_init ∈ kAL := List.mem_filter.mpr ⟨kin_t3 _ (List.mem_of_getElem? (i := 41) rfl), rfl⟩
theorem kq_3_42 : Cond.code yX4_init prog_6_method_1_code 1 (none : Option Jvm.ClassFile.FieldType) ∈ kAL := List.mem_filter.mpr ⟨kin_t3 _ (List.mem_of_getElem? (i := 42) rfl), rfl⟩
theorem kq_3_43 : Cond.methodLink "Parserpark$Text" 3 (⟨"java/lang/Object", "<init>", "()V"⟩ : MethodName) ∈ kAL := List.mem_filter.mpr ⟨kin_t3 _ (List.mem_of_getElem? (i := 43) rfl), rfl⟩
theorem kq_3_44 : Cond.classLink "Parserpark$Text" 9 "Parserpark$Spans" ∈ kAL := List.mem_filter.mpr ⟨kin_t3 _ (List.mem_of_getElem? (i := 44) rfl), rfl⟩
theorem kq_3_45 : Cond.methodLinkNest "Parserpark$Text" 11 yX3_init "Parserpark" ∈ kBL := List.mem_filter.mpr ⟨kin_t3 _ (List.mem_of_getElem? (i := 45) rfl), rfl⟩
theorem kq_3_46 : Cond.fieldLink "Parserpark$Text" 12 "Parserpark$Text" "spans" "LParserpark$Spans;" ∈ kAL := List.mem_filter.mpr ⟨kin_t3 _ (List.mem_of_getElem? (i := 46) rfl), rfl⟩
theorem kq_3_47 : Cond.fieldLink "Parserpark" 117 "Parserpark$Text" "spans" "LParserpark$Spans;" ∈ kAL := List.mem_filter.mpr ⟨kin_t3 _ (List.mem_of_getElem? (i := 47) rfl), rfl⟩
theorem kq_3_48 : Cond.fieldLink "Parserpark$Text" 18 "Parserpark$Text" "accepted" "[I" ∈ kAL := List.mem_filter.mpr ⟨kin_t3 _ (List.mem_of_getElem? (i := 48) rfl), rfl⟩
theorem kq_3_49 : Cond.fieldLink "Parserpark$Text" 22 "Parserpark$Text" "acceptedCount" "I" ∈ kAL := List.mem_filter.mpr ⟨kin_t3 _ (List.mem_of_getElem? (i := 49) rfl), rfl⟩
theorem kq_3_50 : Cond.fieldLink "Parserpark" 233 "Parserpark$Text" "acceptedCount" "I" ∈ kAL := List.mem_filter.mpr ⟨kin_t3 _ (List.mem_of_getElem? (i := 50) rfl), rfl⟩
theorem kq_3_51 : Cond.laysFinal "Parserpark$Text" "Parserpark$Text" "spans" "LParserpark$Spans;" ∈ kAL := List.mem_filter.mpr ⟨kin_t3 _ (List.mem_of_getElem? (i := 51) rfl), rfl⟩
theorem kq_3_52 : Cond.soleField "Parserpark$Text" "spans" ∈ lw_tbl := kin_t3 _ (List.mem_of_getElem? (i := 52) rfl)
theorem kq_3_53 : Cond.laysFinal "Parserpark$Text" "Parserpark$Text" "accepted" "[I" ∈ kAL := List.mem_filter.mpr ⟨kin_t3 _ (List.mem_of_getElem? (i := 53) rfl), rfl⟩
theorem kq_3_54 : Cond.soleField "Parserpark$Text" "accepted" ∈ lw_tbl := kin_t3 _ (List.mem_of_getElem? (i := 54) rfl)
theorem kq_3_55 : Cond.lays "Parserpark$Text" "Parserpark$Text" "acceptedCount" "I" ∈ kAL := List.mem_filter.mpr ⟨kin_t3 _ (List.mem_of_getElem? (i := 55) rfl), rfl⟩
theorem kq_3_56 : Cond.soleField "Parserpark$Text" "acceptedCount" ∈ lw_tbl := kin_t3 _ (List.mem_of_getElem? (i := 56) rfl)
theorem kq_3_57 : Cond.superclass "Parserpark$Text" "java/lang/Object" ∈ lw_tbl := kin_t3 _ (List.mem_of_getElem? (i := 57) rfl)
theorem kq_3_58 : Cond.methodLink "Parserpark" 120 yX3_append ∈ kAL := List.mem_filter.mpr ⟨kin_t3 _ (List.mem_of_getElem? (i := 58) rfl), rfl⟩
theorem kq_3_59 : Cond.instanceMethod yX3_append ∈ kAL := List.mem_filter.mpr ⟨kin_t3 _ (List.mem_of_getElem? (i := 59) rfl), rfl⟩
theorem kq_3_60 : Cond.selects "Parserpark$Spans" yX3_append yX3_append ∈ kAL := List.mem_filter.mpr ⟨kin_t3 _ (List.mem_of_getElem? (i := 60) rfl), rfl⟩
theorem kq_3_61 : Cond.code yX3_append prog_5_method_4_code 2 (none : Option Jvm.ClassFile.FieldType) ∈ kAL := List.mem_filter.mpr ⟨kin_t3 _ (List.mem_of_getElem? (i := 61) rfl), rfl⟩
theorem kq_3_62 : Cond.methodLink "Parserpark" 123 yX3_findHaving ∈ kAL := List.mem_filter.mpr ⟨kin_t3 _ (List.mem_of_getElem? (i := 62) rfl), rfl⟩
theorem kq_3_63 : Cond.instanceMethod yX3_findHaving ∈ kAL := List.mem_filter.mpr ⟨kin_t3 _ (List.mem_of_getElem? (i := 63) rfl), rfl⟩
theorem kq_3_64 : Cond.selects "Parserpark$Spans" yX3_findHaving yX3_findHaving ∈ kAL := List.mem_filter.mpr ⟨kin_t3 _ (List.mem_of_getElem? (i := 64) rfl), rfl⟩
theorem kq_3_65 : Cond.code yX3_findHaving prog_5_method_11_code 7 (some .int) ∈ kAL := List.mem_filter.mpr ⟨kin_t3 _ (List.mem_of_getElem? (i := 65) rfl), rfl⟩
theorem kq_3_66 : Cond.methodLink "Parserpark$Spans" 30 yJ9_min_7cf53 ∈ kAL := List.mem_filter.mpr ⟨kin_t3 _ (List.mem_of_getElem? (i := 66) rfl), rfl⟩
theorem kq_3_67 : Cond.static yJ9_min_7cf53 ∈ kAL := List.mem_filter.mpr ⟨kin_t3 _ (List.mem_of_getElem? (i := 67) rfl), rfl⟩
theorem kq_3_68 : Cond.code yJ9_min_7cf53 prog_17_method_69_code 2 (some .int) ∈ kAL := List.mem_filter.mpr ⟨kin_t3 _ (List.mem_of_getElem? (i := 68) rfl), rfl⟩
theorem kq_3_69 : Cond.methodLink "Parserpark$Spans" 64 yJ9_max_7cf53 ∈ kAL := List.mem_filter.mpr ⟨kin_t3 _ (List.mem_of_getElem? (i := 69) rfl), rfl⟩
theorem kq_3_70 : Cond.methodLink "ParserparkLaw" 137 yL_addLetter ∈ kAL := List.mem_filter.mpr ⟨kin_t3 _ (List.mem_of_getElem? (i := 70) rfl), rfl⟩
theorem kq_3_71 : Cond.static yL_addLetter ∈ kAL := List.mem_filter.mpr ⟨kin_t3 _ (List.mem_of_getElem? (i := 71) rfl), rfl⟩
theorem kq_3_72 : Cond.codeWith yL_addLetter method_8_code 5 (some .int) [(0, 10, 13, 37), (0, 10, 17, 13), (0, 10, 21, 15)] ∈ kAL := List.mem_filter.mpr ⟨kin_t3 _ (List.mem_of_getElem? (i := 72) rfl), rfl⟩
theorem kq_3_73 : Cond.classLink "ParserparkLaw" 37 "java/lang/IndexOutOfBoundsException" ∈ kAL := List.mem_filter.mpr ⟨kin_t3 _ (List.mem_of_getElem? (i := 73) rfl), rfl⟩
theorem kq_3_74 : Cond.instantiable "java/lang/ArrayIndexOutOfBoundsException" 6 ∈ kAL := List.mem_filter.mpr ⟨kin_t3 _ (List.mem_of_getElem? (i := 74) rfl), rfl⟩
theorem kq_3_75 : Cond.instanceMethod yJx00060_init_a7421 ∈ kAL := List.mem_filter.mpr ⟨kin_t3 _ (List.mem_of_getElem? (i := 75) rfl), rfl⟩
theorem kq_3_76 : Cond.code yJx00060_init_a7421 prog_12_method_2_code 2 (none : Option Jvm.ClassFile.FieldType) ∈ kAL := List.mem_filter.mpr ⟨kin_t3 _ (List.mem_of_getElem? (i := 76) rfl), rfl⟩
theorem kq_3_77 : Cond.methodLink "java/lang/ArrayIndexOutOfBoundsException" 7 (⟨"java/lang/IndexOutOfBoundsException", "<init>", "(Ljava/lang/String;)V"⟩ : MethodName) ∈ kAL := List.mem_filter.mpr ⟨kin_t3 _ (List.mem_of_getElem? (i := 77) rfl), rfl⟩
theorem kq_3_78 : Cond.instanceMethod (⟨"java/lang/IndexOutOfBoundsException", "<init>", "(Ljava/lang/String;)V"⟩ : MethodName) ∈ kAL := List.mem_filter.mpr ⟨kin_t3 _ (List.mem_of_getElem? (i := 78) rfl), rfl⟩
theorem kq_3_79 : Cond.code (⟨"java/lang/IndexOutOfBoundsException", "<init>", "(Ljava/lang/String;)V"⟩ : MethodName) prog_16_method_2_code 2 (none : Option Jvm.ClassFile.FieldType) ∈ kAL := List.mem_filter.mpr ⟨kin_t3 _ (List.mem_of_getElem? (i := 79) rfl), rfl⟩
theorem kq_3_80 : Cond.methodLink "java/lang/IndexOutOfBoundsException" 7 (⟨"java/lang/RuntimeException", "<init>", "(Ljava/lang/String;)V"⟩ : MethodName) ∈ kAL := List.mem_filter.mpr ⟨kin_t3 _ (List.mem_of_getElem? (i := 80) rfl), rfl⟩
theorem kq_3_81 : Cond.instanceMethod (⟨"java/lang/RuntimeException", "<init>", "(Ljava/lang/String;)V"⟩ : MethodName) ∈ kAL := List.mem_filter.mpr ⟨kin_t3 _ (List.mem_of_getElem? (i := 81) rfl), rfl⟩
theorem kq_3_82 : Cond.code (⟨"java/lang/RuntimeException", "<init>", "(Ljava/lang/String;)V"⟩ : MethodName) prog_18_method_2_code 2 (none : Option Jvm.ClassFile.FieldType) ∈ kAL := List.mem_filter.mpr ⟨kin_t3 _ (List.mem_of_getElem? (i := 82) rfl), rfl⟩
theorem kq_3_83 : Cond.methodLink "java/lang/RuntimeException" 7 (⟨"java/lang/Exception", "<init>", "(Ljava/lang/String;)V"⟩ : MethodName) ∈ kAL := List.mem_filter.mpr ⟨kin_t3 _ (List.mem_of_getElem? (i := 83) rfl), rfl⟩
theorem kq_3_84 : Cond.instanceMethod (⟨"java/lang/Exception", "<init>", "(Ljava/lang/String;)V"⟩ : MethodName) ∈ kAL := List.mem_filter.mpr ⟨kin_t3 _ (List.mem_of_getElem? (i := 84) rfl), rfl⟩
theorem kq_3_85 : Cond.code (⟨"java/lang/Exception", "<init>", "(Ljava/lang/String;)V"⟩ : MethodName) prog_13_method_2_code 2 (none : Option Jvm.ClassFile.FieldType) ∈ kAL := List.mem_filter.mpr ⟨kin_t3 _ (List.mem_of_getElem? (i := 85) rfl), rfl⟩
theorem kq_3_86 : Cond.methodLink "java/lang/Exception" 7 (⟨"java/lang/Throwable", "<init>", "(Ljava/lang/String;)V"⟩ : MethodName) ∈ kAL := List.mem_filter.mpr ⟨kin_t3 _ (List.mem_of_getElem? (i := 86) rfl), rfl⟩
theorem kq_3_87 : Cond.instanceMethod (⟨"java/lang/Throwable", "<init>", "(Ljava/lang/String;)V"⟩ : MethodName) ∈ kAL := List.mem_filter.mpr ⟨kin_t3 _ (List.mem_of_getElem? (i := 87) rfl), rfl⟩
theorem kq_3_88 : Cond.code (⟨"java/lang/Throwable", "<init>", "(Ljava/lang/String;)V"⟩ : MethodName) prog_20_method_2_code 2 (none : Option Jvm.ClassFile.FieldType) ∈ kAL := List.mem_filter.mpr ⟨kin_t3 _ (List.mem_of_getElem? (i := 88) rfl), rfl⟩
theorem kq_3_89 : Cond.lays "java/lang/ArrayIndexOutOfBoundsException" "java/lang/Throwable" "backtrace" "Ljava/lang/Object;" ∈ kAL := List.mem_filter.mpr ⟨kin_t3 _ (List.mem_of_getElem? (i := 89) rfl), rfl⟩
theorem kq_3_90 : Cond.lays "java/lang/ArrayIndexOutOfBoundsException" "java/lang/Throwable" "detailMessage" "Ljava/lang/String;" ∈ kAL := List.mem_filter.mpr ⟨kin_t3 _ (List.mem_of_getElem? (i := 90) rfl), rfl⟩
theorem kq_3_91 : Cond.lays "java/lang/ArrayIndexOutOfBoundsException" "java/lang/Throwable" "cause" "Ljava/lang/Throwable;" ∈ kAL := List.mem_filter.mpr ⟨kin_t3 _ (List.mem_of_getElem? (i := 91) rfl), rfl⟩
theorem kq_3_92 : Cond.lays "java/lang/ArrayIndexOutOfBoundsException" "java/lang/Throwable" "stackTrace" "[Ljava/lang/StackTraceElement;" ∈ kAL := List.mem_filter.mpr ⟨kin_t3 _ (List.mem_of_getElem? (i := 92) rfl), rfl⟩
theorem kq_3_93 : Cond.lays "java/lang/ArrayIndexOutOfBoundsException" "java/lang/Throwable" "depth" "I" ∈ kAL := List.mem_filter.mpr ⟨kin_t3 _ (List.mem_of_getElem? (i := 93) rfl), rfl⟩
theorem kq_3_94 : Cond.lays "java/lang/ArrayIndexOutOfBoundsException" "java/lang/Throwable" "suppressedExceptions" "Ljava/util/List;" ∈ kAL := List.mem_filter.mpr ⟨kin_t3 _ (List.mem_of_getElem? (i := 94) rfl), rfl⟩
theorem kq_3_95 : Cond.superclass "java/lang/ArrayIndexOutOfBoundsException" "java/lang/IndexOutOfBoundsException" ∈ lw_tbl := kin_t3 _ (List.mem_of_getElem? (i := 95) rfl)
theorem kq_3_96 : Cond.castable "java/lang/ArrayIndexOutOfBoundsException" "java/lang/ArrayIndexOutOfBoundsException" ∈ kBL := List.mem_filter.mpr ⟨kin_t3 _ (List.mem_of_getElem? (i := 96) rfl), rfl⟩
theorem kq_3_97 : Cond.declares (⟨"java/lang/IndexOutOfBoundsException", "<init>", "()V"⟩ : MethodName) ∈ kBL := List.mem_filter.mpr ⟨kin_t3 _ (List.mem_of_getElem? (i := 97) rfl), rfl⟩
theorem kq_3_98 : Cond.declares (⟨"java/lang/IndexOutOfBoundsException", "<init>", "(Ljava/lang/String;)V"⟩ : MethodName) ∈ kBL := List.mem_filter.mpr ⟨kin_t3 _ (List.mem_of_getElem? (i := 98) rfl), rfl⟩
theorem kq_3_99 : Cond.selects "java/lang/ArrayIndexOutOfBoundsException" (⟨"java/lang/Throwable", "fillInStackTrace", "(I)Ljava/lang/Throwable;"⟩ : MethodName) (⟨"java/lang/Throwable", "fillInStackTrace", "(I)Ljava/lang/Throwable;"⟩ : MethodName) ∈ kAL := List.mem_filter.mpr ⟨kin_t3 _ (List.mem_of_getElem? (i := 99) rfl), rfl⟩
theorem kq_3_100 : Cond.instantiable "java/lang/String" 4 ∈ kAL := List.mem_filter.mpr ⟨kin_t3 _ (List.mem_of_getElem? (i := 100) rfl), rfl⟩
theorem kq_3_101 : Cond.arrayClass .byte ∈ kAL := List.mem_filter.mpr ⟨kin_t3 _ (List.mem_of_getElem? (i := 101) rfl), rfl⟩
theorem kq_3_102 : Cond.laysFinal "java/lang/String" "java/lang/String" "value" "[B" ∈ kAL := List.mem_filter.mpr ⟨kin_t3 _ (List.mem_of_getElem? (i := 102) rfl), rfl⟩
theorem kq_3_103 : Cond.soleField "java/lang/String" "value" ∈ lw_tbl := kin_t3 _ (List.mem_of_getElem? (i := 103) rfl)
theorem kq_3_104 : Cond.laysFinal "java/lang/String" "java/lang/String" "coder" "B" ∈ kAL := List.mem_filter.mpr ⟨kin_t3 _ (List.mem_of_getElem? (i := 104) rfl), rfl⟩
theorem kq_3_105 : Cond.soleField "java/lang/String" "coder" ∈ lw_tbl := kin_t3 _ (List.mem_of_getElem? (i := 105) rfl)
theorem kq_3_106 : Cond.methodLink "ParserparkLaw" 34 yX6_addLetter ∈ kAL := List.mem_filter.mpr ⟨kin_t3 _ (List.mem_of_getElem? (i := 106) rfl), rfl⟩
theorem kq_3_107 : Cond.instanceMethod yX6_addLetter ∈ kAL := List.mem_filter.mpr ⟨kin_t3 _ (List.mem_of_getElem? (i := 107) rfl), rfl⟩
theorem kq_3_108 : Cond.selects "Parserpark" yX6_addLetter yX6_addLetter ∈ kAL := List.mem_filter.mpr ⟨kin_t3 _ (List.mem_of_getElem? (i := 108) rfl), rfl⟩
theorem kq_3_109 : Cond.code yX6_addLetter prog_1_method_8_code 4 (some .int) ∈ kAL := List.mem_filter.mpr ⟨kin_t3 _ (List.mem_of_getElem? (i := 109) rfl), rfl⟩
theorem kq_3_110 : Cond.methodLink "Parserpark" 127 yX6_existingText ∈ kAL := List.mem_filter.mpr ⟨kin_t3 _ (List.mem_of_getElem? (i := 110) rfl), rfl⟩
theorem kq_3_111 : Cond.privateMethod yX6_existingText ∈ lw_tbl := kin_t3 _ (List.mem_of_getElem? (i := 111) rfl)
theorem kq_3_112 : Cond.instanceMethod yX6_existingText ∈ kAL := List.mem_filter.mpr ⟨kin_t3 _ (List.mem_of_getElem? (i := 112) rfl), rfl⟩
theorem kq_3_113 : Cond.code yX6_existingText prog_1_method_40_code 3 (some (.object "Parserpark$Text")) ∈ kAL := List.mem_filter.mpr ⟨kin_t3 _ (List.mem_of_getElem? (i := 113) rfl), rfl⟩
theorem kq_3_114 : Cond.classLink "Parserpark" 219 "java/lang/IndexOutOfBoundsException" ∈ kAL := List.mem_filter.mpr ⟨kin_t3 _ (List.mem_of_getElem? (i := 114) rfl), rfl⟩
theorem kq_3_115 : Cond.instantiable "java/lang/IndexOutOfBoundsException" 6 ∈ kAL := List.mem_filter.mpr ⟨kin_t3 _ (List.mem_of_getElem? (i := 115) rfl), rfl⟩
theorem kq_3_116 : Cond.castable "java/lang/IndexOutOfBoundsException" "java/lang/IndexOutOfBoundsException" ∈ kBL := List.mem_filter.mpr ⟨kin_t3 _ (List.mem_of_getElem? (i := 116) rfl), rfl⟩
theorem kq_3_117 : Cond.selects "java/lang/IndexOutOfBoundsException" (⟨"java/lang/Throwable", "fillInStackTrace", "(I)Ljava/lang/Throwable;"⟩ : MethodName) (⟨"java/lang/Throwable", "fillInStackTrace", "(I)Ljava/lang/Throwable;"⟩ : MethodName) ∈ kAL := List.mem_filter.mpr ⟨kin_t3 _ (List.mem_of_getElem? (i := 117) rfl), rfl⟩
theorem kq_3_118 : Cond.lays "java/lang/IndexOutOfBoundsException" "java/lang/Throwable" "cause" "Ljava/lang/Throwable;" ∈ kAL := List.mem_filter.mpr ⟨kin_t3 _ (List.mem_of_getElem? (i := 118) rfl), rfl⟩
theorem kq_3_119 : Cond.lays "java/lang/IndexOutOfBoundsException" "java/lang/Throwable" "stackTrace" "[Ljava/lang/StackTraceElement;" ∈ kAL := List.mem_filter.mpr ⟨kin_t3 _ (List.mem_of_getElem? (i := 119) rfl), rfl⟩
theorem kq_3_120 : Cond.lays "java/lang/IndexOutOfBoundsException" "java/lang/Throwable" "suppressedExceptions" "Ljava/util/List;" ∈ kAL := List.mem_filter.mpr ⟨kin_t3 _ (List.mem_of_getElem? (i := 120) rfl), rfl⟩
theorem kq_3_121 : Cond.lays "java/lang/IndexOutOfBoundsException" "java/lang/Throwable" "detailMessage" "Ljava/lang/String;" ∈ kAL := List.mem_filter.mpr ⟨kin_t3 _ (List.mem_of_getElem? (i := 121) rfl), rfl⟩
theorem kq_3_122 : Cond.lays "java/lang/IndexOutOfBoundsException" "java/lang/Throwable" "backtrace" "Ljava/lang/Object;" ∈ kAL := List.mem_filter.mpr ⟨kin_t3 _ (List.mem_of_getElem? (i := 122) rfl), rfl⟩
theorem kq_3_123 : Cond.methodLink "Parserpark" 221 (⟨"java/lang/IndexOutOfBoundsException", "<init>", "()V"⟩ : MethodName) ∈ kAL := List.mem_filter.mpr ⟨kin_t3 _ (List.mem_of_getElem? (i := 123) rfl), rfl⟩
theorem kq_3_124 : Cond.instanceMethod (⟨"java/lang/IndexOutOfBoundsException", "<init>", "()V"⟩ : MethodName) ∈ kAL := List.mem_filter.mpr ⟨kin_t3 _ (List.mem_of_getElem? (i := 124) rfl), rfl⟩
theorem kq_3_125 : Cond.code (⟨"java/lang/IndexOutOfBoundsException", "<init>", "()V"⟩ : MethodName) prog_16_method_1_code 1 (none : Option Jvm.ClassFile.FieldType) ∈ kAL := List.mem_filter.mpr ⟨kin_t3 _ (List.mem_of_getElem? (i := 125) rfl), rfl⟩
theorem kq_3_126 : Cond.methodLink "java/lang/IndexOutOfBoundsException" 1 (⟨"java/lang/RuntimeException", "<init>", "()V"⟩ : MethodName) ∈ kAL := List.mem_filter.mpr ⟨kin_t3 _ (List.mem_of_getElem? (i := 126) rfl), rfl⟩
theorem kq_3_127 : Cond.lays "java/lang/IndexOutOfBoundsException" "java/lang/Throwable" "depth" "I" ∈ kAL := List.mem_filter.mpr ⟨kin_t3 _ (List.mem_of_getElem? (i := 127) rfl), rfl⟩
theorem kq_3_128 : Cond.superclass "java/lang/IndexOutOfBoundsException" "java/lang/RuntimeException" ∈ lw_tbl := kin_t3 _ (List.mem_of_getElem? (i := 128) rfl)
theorem kq_3_129 : Cond.methodLink "ParserparkLaw" 140 yL_replace ∈ kAL := List.mem_filter.mpr ⟨kin_t3 _ (List.mem_of_getElem? (i := 129) rfl), rfl⟩
theorem kq_3_130 : Cond.static yL_replace ∈ kAL := List.mem_filter.mpr ⟨kin_t3 _ (List.mem_of_getElem? (i := 130) rfl), rfl⟩
theorem kq_3_131 : Cond.codeWith yL_replace method_9_code 6 (some .int) [(0, 12, 15, 37), (0, 12, 19, 13)] ∈ kAL := List.mem_filter.mpr ⟨kin_t3 _ (List.mem_of_getElem? (i := 131) rfl), rfl⟩
theorem kq_3_132 : Cond.methodLink "ParserparkLaw" 39 yX6_replace ∈ kAL := List.mem_filter.mpr ⟨kin_t3 _ (List.mem_of_getElem? (i := 132) rfl), rfl⟩
theorem kq_3_133 : Cond.instanceMethod yX6_replace ∈ kAL := List.mem_filter.mpr ⟨kin_t3 _ (List.mem_of_getElem? (i := 133) rfl), rfl⟩
theorem kq_3_134 : Cond.selects "Parserpark" yX6_replace yX6_replace ∈ kAL := List.mem_filter.mpr ⟨kin_t3 _ (List.mem_of_getElem? (i := 134) rfl), rfl⟩
theorem kq_3_135 : Cond.code yX6_replace prog_1_method_9_code 5 (some .int) ∈ kAL := List.mem_filter.mpr ⟨kin_t3 _ (List.mem_of_getElem? (i := 135) rfl), rfl⟩
theorem kq_3_136 : Cond.methodLink "Parserpark" 137 yX6_requirePlace ∈ kAL := List.mem_filter.mpr ⟨kin_t3 _ (List.mem_of_getElem? (i := 136) rfl), rfl⟩
theorem kq_3_137 : Cond.static yX6_requirePlace ∈ kAL := List.mem_filter.mpr ⟨kin_t3 _ (List.mem_of_getElem? (i := 137) rfl), rfl⟩
theorem kq_3_138 : Cond.code yX6_requirePlace prog_1_method_38_code 2 (none : Option Jvm.ClassFile.FieldType) ∈ kAL := List.mem_filter.mpr ⟨kin_t3 _ (List.mem_of_getElem? (i := 138) rfl), rfl⟩
theorem kq_3_139 : Cond.methodLink "Parserpark" 141 yX3_put ∈ kAL := List.mem_filter.mpr ⟨kin_t3 _ (List.mem_of_getElem? (i := 139) rfl), rfl⟩
theorem kq_3_140 : Cond.methodLink "ParserparkLaw" 143 yL_length ∈ kAL := List.mem_filter.mpr ⟨kin_t3 _ (List.mem_of_getElem? (i := 140) rfl), rfl⟩
theorem kq_3_141 : Cond.static yL_length ∈ kAL := List.mem_filter.mpr ⟨kin_t3 _ (List.mem_of_getElem? (i := 141) rfl), rfl⟩
theorem kq_3_142 : Cond.codeWith yL_length method_10_code 4 (some .int) [(0, 9, 12, 37)] ∈ kAL := List.mem_filter.mpr ⟨kin_t3 _ (List.mem_of_getElem? (i := 142) rfl), rfl⟩
theorem kq_3_143 : Cond.methodLink "ParserparkLaw" 42 yX6_length ∈ kAL := List.mem_filter.mpr ⟨kin_t3 _ (List.mem_of_getElem? (i := 143) rfl), rfl⟩
theorem kq_3_144 : Cond.instanceMethod yX6_length ∈ kAL := List.mem_filter.mpr ⟨kin_t3 _ (List.mem_of_getElem? (i := 144) rfl), rfl⟩
theorem kq_3_145 : Cond.selects "Parserpark" yX6_length yX6_length ∈ kAL := List.mem_filter.mpr ⟨kin_t3 _ (List.mem_of_getElem? (i := 145) rfl), rfl⟩
theorem kq_3_146 : Cond.code yX6_length prog_1_method_10_code 2 (some .int) ∈ kAL := List.mem_filter.mpr ⟨kin_t3 _ (List.mem_of_getElem? (i := 146) rfl), rfl⟩
theorem kq_3_147 : Cond.methodLink "ParserparkLaw" 146 yL_letterAt ∈ kAL := List.mem_filter.mpr ⟨kin_t3 _ (List.mem_of_getElem? (i := 147) rfl), rfl⟩
theorem kq_3_148 : Cond.static yL_letterAt ∈ kAL := List.mem_filter.mpr ⟨kin_t3 _ (List.mem_of_getElem? (i := 148) rfl), rfl⟩
theorem kq_3_149 : Cond.codeWith yL_letterAt method_11_code 5 (some .int) [(0, 10, 13, 37)] ∈ kAL := List.mem_filter.mpr ⟨kin_t3 _ (List.mem_of_getElem? (i := 149) rfl), rfl⟩
theorem kq_3_150 : Cond.methodLink "ParserparkLaw" 45 yX6_letterAt ∈ kAL := List.mem_filter.mpr ⟨kin_t3 _ (List.mem_of_getElem? (i := 150) rfl), rfl⟩
theorem kq_3_151 : Cond.instanceMethod yX6_letterAt ∈ kAL := List.mem_filter.mpr ⟨kin_t3 _ (List.mem_of_getElem? (i := 151) rfl), rfl⟩
theorem kq_3_152 : Cond.selects "Parserpark" yX6_letterAt yX6_letterAt ∈ kAL := List.mem_filter.mpr ⟨kin_t3 _ (List.mem_of_getElem? (i := 152) rfl), rfl⟩
theorem kq_3_153 : Cond.code yX6_letterAt prog_1_method_11_code 4 (some .int) ∈ kAL := List.mem_filter.mpr ⟨kin_t3 _ (List.mem_of_getElem? (i := 153) rfl), rfl⟩
theorem kq_3_154 : Cond.methodLink "Parserpark" 144 yX3_letterOf ∈ kAL := List.mem_filter.mpr ⟨kin_t3 _ (List.mem_of_getElem? (i := 154) rfl), rfl⟩
theorem kq_3_155 : Cond.methodLink "ParserparkLaw" 149 yL_trees ∈ kAL := List.mem_filter.mpr ⟨kin_t3 _ (List.mem_of_getElem? (i := 155) rfl), rfl⟩
theorem kq_3_156 : Cond.static yL_trees ∈ kAL := List.mem_filter.mpr ⟨kin_t3 _ (List.mem_of_getElem? (i := 156) rfl), rfl⟩
theorem kq_3_157 : Cond.codeWith yL_trees method_12_code 4 (some .int) [(0, 9, 12, 37)] ∈ kAL := List.mem_filter.mpr ⟨kin_t3 _ (List.mem_of_getElem? (i := 157) rfl), rfl⟩
theorem kq_3_158 : Cond.methodLink "ParserparkLaw" 48 yX6_trees ∈ kAL := List.mem_filter.mpr ⟨kin_t3 _ (List.mem_of_getElem? (i := 158) rfl), rfl⟩
theorem kq_3_159 : Cond.instanceMethod yX6_trees ∈ kAL := List.mem_filter.mpr ⟨kin_t3 _ (List.mem_of_getElem? (i := 159) rfl), rfl⟩
theorem kq_3_160 : Cond.selects "Parserpark" yX6_trees yX6_trees ∈ kAL := List.mem_filter.mpr ⟨kin_t3 _ (List.mem_of_getElem? (i := 160) rfl), rfl⟩
theorem kq_3_161 : Cond.code yX6_trees prog_1_method_12_code 2 (some .int) ∈ kAL := List.mem_filter.mpr ⟨kin_t3 _ (List.mem_of_getElem? (i := 161) rfl), rfl⟩
theorem kq_3_162 : Cond.methodLink "ParserparkLaw" 152 yL_treesByTrying ∈ kAL := List.mem_filter.mpr ⟨kin_t3 _ (List.mem_of_getElem? (i := 162) rfl), rfl⟩
theorem kq_3_163 : Cond.static yL_treesByTrying ∈ kAL := List.mem_filter.mpr ⟨kin_t3 _ (List.mem_of_getElem? (i := 163) rfl), rfl⟩
theorem kq_3_164 : Cond.codeWith yL_treesByTrying method_13_code 4 (some .int) [(0, 9, 12, 37), (0, 9, 15, 54)] ∈ kAL := List.mem_filter.mpr ⟨kin_t3 _ (List.mem_of_getElem? (i := 164) rfl), rfl⟩
theorem kq_3_165 : Cond.classLink "ParserparkLaw" 54 "java/lang/UnsupportedOperationException" ∈ kAL := List.mem_filter.mpr ⟨kin_t3 _ (List.mem_of_getElem? (i := 165) rfl), rfl⟩
theorem kq_3_166 : Cond.methodLink "ParserparkLaw" 51 yX6_treesByTrying ∈ kAL := List.mem_filter.mpr ⟨kin_t3 _ (List.mem_of_getElem? (i := 166) rfl), rfl⟩
theorem kq_3_167 : Cond.instanceMethod yX6_treesByTrying ∈ kAL := List.mem_filter.mpr ⟨kin_t3 _ (List.mem_of_getElem? (i := 167) rfl), rfl⟩
theorem kq_3_168 : Cond.selects "Parserpark" yX6_treesByTrying yX6_treesByTrying ∈ kAL := List.mem_filter.mpr ⟨kin_t3 _ (List.mem_of_getElem? (i := 168) rfl), rfl⟩
theorem kq_3_169 : Cond.code yX6_treesByTrying prog_1_method_13_code 3 (some .int) ∈ kAL := List.mem_filter.mpr ⟨kin_t3 _ (List.mem_of_getElem? (i := 169) rfl), rfl⟩
theorem kq_3_170 : Cond.classLink "Parserpark" 148 "java/lang/UnsupportedOperationException" ∈ kAL := List.mem_filter.mpr ⟨kin_t3 _ (List.mem_of_getElem? (i := 170) rfl), rfl⟩
theorem kq_3_171 : Cond.instantiable "java/lang/UnsupportedOperationException" 6 ∈ kAL := List.mem_filter.mpr ⟨kin_t3 _ (List.mem_of_getElem? (i := 171) rfl), rfl⟩
theorem kq_3_172 : Cond.castable "java/lang/UnsupportedOperationException" "java/lang/UnsupportedOperationException" ∈ kBL := List.mem_filter.mpr ⟨kin_t3 _ (List.mem_of_getElem? (i := 172) rfl), rfl⟩
theorem kq_3_173 : Cond.selects "java/lang/UnsupportedOperationException" (⟨"java/lang/Throwable", "fillInStackTrace", "(I)Ljava/lang/Throwable;"⟩ : MethodName) (⟨"java/lang/Throwable", "fillInStackTrace", "(I)Ljava/lang/Throwable;"⟩ : MethodName) ∈ kAL := List.mem_filter.mpr ⟨kin_t3 _ (List.mem_of_getElem? (i := 173) rfl), rfl⟩
theorem kq_3_174 : Cond.lays "java/lang/UnsupportedOperationException" "java/lang/Throwable" "cause" "Ljava/lang/Throwable;" ∈ kAL := List.mem_filter.mpr ⟨kin_t3 _ (List.mem_of_getElem? (i := 174) rfl), rfl⟩
theorem kq_3_175 : Cond.lays "java/lang/UnsupportedOperationException" "java/lang/Throwable" "stackTrace" "[Ljava/lang/StackTraceElement;" ∈ kAL := List.mem_filter.mpr ⟨kin_t3 _ (List.mem_of_getElem? (i := 175) rfl), rfl⟩
theorem kq_3_176 : Cond.lays "java/lang/UnsupportedOperationException" "java/lang/Throwable" "suppressedExceptions" "Ljava/util/List;" ∈ kAL := List.mem_filter.mpr ⟨kin_t3 _ (List.mem_of_getElem? (i := 176) rfl), rfl⟩
theorem kq_3_177 : Cond.lays "java/lang/UnsupportedOperationException" "java/lang/Throwable" "detailMessage" "Ljava/lang/String;" ∈ kAL := List.mem_filter.mpr ⟨kin_t3 _ (List.mem_of_getElem? (i := 177) rfl), rfl⟩
theorem kq_3_178 : Cond.lays "java/lang/UnsupportedOperationException" "java/lang/Throwable" "backtrace" "Ljava/lang/Object;" ∈ kAL := List.mem_filter.mpr ⟨kin_t3 _ (List.mem_of_getElem? (i := 178) rfl), rfl⟩
theorem kq_3_179 : Cond.methodLink "Parserpark" 150 (⟨"java/lang/UnsupportedOperationException", "<init>", "()V"⟩ : MethodName) ∈ kAL := List.mem_filter.mpr ⟨kin_t3 _ (List.mem_of_getElem? (i := 179) rfl), rfl⟩
theorem kq_3_180 : Cond.instanceMethod (⟨"java/lang/UnsupportedOperationException", "<init>", "()V"⟩ : MethodName) ∈ kAL := List.mem_filter.mpr ⟨kin_t3 _ (List.mem_of_getElem? (i := 180) rfl), rfl⟩
theorem kq_3_181 : Cond.code (⟨"java/lang/UnsupportedOperationException", "<init>", "()V"⟩ : MethodName) prog_21_method_1_code 1 (none : Option Jvm.ClassFile.FieldType) ∈ kAL := List.mem_filter.mpr ⟨kin_t3 _ (List.mem_of_getElem? (i := 181) rfl), rfl⟩
theorem kq_3_182 : Cond.methodLink "java/lang/UnsupportedOperationException" 1 (⟨"java/lang/RuntimeException", "<init>", "()V"⟩ : MethodName) ∈ kAL := List.mem_filter.mpr ⟨kin_t3 _ (List.mem_of_getElem? (i := 182) rfl), rfl⟩
theorem kq_3_183 : Cond.lays "java/lang/UnsupportedOperationException" "java/lang/Throwable" "depth" "I" ∈ kAL := List.mem_filter.mpr ⟨kin_t3 _ (List.mem_of_getElem? (i := 183) rfl), rfl⟩
theorem kq_3_184 : Cond.superclass "java/lang/UnsupportedOperationException" "java/lang/RuntimeException" ∈ lw_tbl := kin_t3 _ (List.mem_of_getElem? (i := 184) rfl)
theorem kq_3_185 : Cond.methodLink "ParserparkLaw" 155 yL_treesOver ∈ kAL := List.mem_filter.mpr ⟨kin_t3 _ (List.mem_of_getElem? (i := 185) rfl), rfl⟩
theorem kq_3_186 : Cond.static yL_treesOver ∈ kAL := List.mem_filter.mpr ⟨kin_t3 _ (List.mem_of_getElem? (i := 186) rfl), rfl⟩
theorem kq_3_187 : Cond.codeWith yL_treesOver method_14_code 7 (some .int) [(0, 14, 17, 37), (0, 14, 21, 13)] ∈ kAL := List.mem_filter.mpr ⟨kin_t3 _ (List.mem_of_getElem? (i := 187) rfl), rfl⟩
theorem kq_3_188 : Cond.methodLink "ParserparkLaw" 56 yX6_treesOver ∈ kAL := List.mem_filter.mpr ⟨kin_t3 _ (List.mem_of_getElem? (i := 188) rfl), rfl⟩
theorem kq_3_189 : Cond.instanceMethod yX6_treesOver ∈ kAL := List.mem_filter.mpr ⟨kin_t3 _ (List.mem_of_getElem? (i := 189) rfl), rfl⟩
theorem kq_3_190 : Cond.selects "Parserpark" yX6_treesOver yX6_treesOver ∈ kAL := List.mem_filter.mpr ⟨kin_t3 _ (List.mem_of_getElem? (i := 190) rfl), rfl⟩
theorem kq_3_191 : Cond.code yX6_treesOver prog_1_method_14_code 6 (some .int) ∈ kAL := List.mem_filter.mpr ⟨kin_t3 _ (List.mem_of_getElem? (i := 191) rfl), rfl⟩
theorem kq_3_192 : Cond.methodLink "Parserpark" 158 yX3_treesOf ∈ kAL := List.mem_filter.mpr ⟨kin_t3 _ (List.mem_of_getElem? (i := 192) rfl), rfl⟩
theorem kq_3_193 : Cond.methodLink "ParserparkLaw" 158 yL_size ∈ kAL := List.mem_filter.mpr ⟨kin_t3 _ (List.mem_of_getElem? (i := 193) rfl), rfl⟩
theorem kq_3_194 : Cond.static yL_size ∈ kAL := List.mem_filter.mpr ⟨kin_t3 _ (List.mem_of_getElem? (i := 194) rfl), rfl⟩
theorem kq_3_195 : Cond.codeWith yL_size method_15_code 4 (some .int) [(0, 9, 12, 37)] ∈ kAL := List.mem_filter.mpr ⟨kin_t3 _ (List.mem_of_getElem? (i := 195) rfl), rfl⟩
theorem kq_3_196 : Cond.methodLink "ParserparkLaw" 59 yX6_size ∈ kAL := List.mem_filter.mpr ⟨kin_t3 _ (List.mem_of_getElem? (i := 196) rfl), rfl⟩
theorem kq_3_197 : Cond.instanceMethod yX6_size ∈ kAL := List.mem_filter.mpr ⟨kin_t3 _ (List.mem_of_getElem? (i := 197) rfl), rfl⟩
theorem kq_3_198 : Cond.selects "Parserpark" yX6_size yX6_size ∈ kAL := List.mem_filter.mpr ⟨kin_t3 _ (List.mem_of_getElem? (i := 198) rfl), rfl⟩
theorem kq_3_199 : Cond.code yX6_size prog_1_method_15_code 2 (some .int) ∈ kAL := List.mem_filter.mpr ⟨kin_t3 _ (List.mem_of_getElem? (i := 199) rfl), rfl⟩
theorem kq_3_200 : Cond.methodLink "Parserpark" 162 yX6_layOut ∈ kAL := List.mem_filter.mpr ⟨kin_t3 _ (List.mem_of_getElem? (i := 200) rfl), rfl⟩
theorem kq_3_201 : Cond.privateMethod yX6_layOut ∈ lw_tbl := kin_t3 _ (List.mem_of_getElem? (i := 201) rfl)
theorem kq_3_202 : Cond.instanceMethod yX6_layOut ∈ kAL := List.mem_filter.mpr ⟨kin_t3 _ (List.mem_of_getElem? (i := 202) rfl), rfl⟩
theorem kq_3_203 : Cond.code yX6_layOut prog_1_method_41_code 2 (none : Option Jvm.ClassFile.FieldType) ∈ kAL := List.mem_filter.mpr ⟨kin_t3 _ (List.mem_of_getElem? (i := 203) rfl), rfl⟩
theorem kq_3_204 : Cond.methodLink "ParserparkLaw" 161 yL_ruleAt ∈ kAL := List.mem_filter.mpr ⟨kin_t3 _ (List.mem_of_getElem? (i := 204) rfl), rfl⟩
theorem kq_3_205 : Cond.static yL_ruleAt ∈ kAL := List.mem_filter.mpr ⟨kin_t3 _ (List.mem_of_getElem? (i := 205) rfl), rfl⟩
theorem kq_3_206 : Cond.codeWith yL_ruleAt method_16_code 5 (some .int) [(0, 10, 13, 37), (0, 10, 17, 21)] ∈ kAL := List.mem_filter.mpr ⟨kin_t3 _ (List.mem_of_getElem? (i := 206) rfl), rfl⟩
theorem kq_3_207 : Cond.methodLink "ParserparkLaw" 62 yX6_ruleAt ∈ kAL := List.mem_filter.mpr ⟨kin_t3 _ (List.mem_of_getElem? (i := 207) rfl), rfl⟩
theorem kq_3_208 : Cond.instanceMethod yX6_ruleAt ∈ kAL := List.mem_filter.mpr ⟨kin_t3 _ (List.mem_of_getElem? (i := 208) rfl), rfl⟩
theorem kq_3_209 : Cond.selects "Parserpark" yX6_ruleAt yX6_ruleAt ∈ kAL := List.mem_filter.mpr ⟨kin_t3 _ (List.mem_of_getElem? (i := 209) rfl), rfl⟩
theorem kq_3_210 : Cond.code yX6_ruleAt prog_1_method_16_code 3 (some .int) ∈ kAL := List.mem_filter.mpr ⟨kin_t3 _ (List.mem_of_getElem? (i := 210) rfl), rfl⟩
theorem kq_3_211 : Cond.methodLink "Parserpark" 171 yX1_ruleNumber ∈ kAL := List.mem_filter.mpr ⟨kin_t3 _ (List.mem_of_getElem? (i := 211) rfl), rfl⟩
theorem kq_3_212 : Cond.instanceMethod yX1_ruleNumber ∈ kAL := List.mem_filter.mpr ⟨kin_t3 _ (List.mem_of_getElem? (i := 212) rfl), rfl⟩
theorem kq_3_213 : Cond.selects "Parserpark$Layout" yX1_ruleNumber yX1_ruleNumber ∈ kAL := List.mem_filter.mpr ⟨kin_t3 _ (List.mem_of_getElem? (i := 213) rfl), rfl⟩
theorem kq_3_214 : Cond.code yX1_ruleNumber prog_3_method_8_code 2 (some .int) ∈ kAL := List.mem_filter.mpr ⟨kin_t3 _ (List.mem_of_getElem? (i := 214) rfl), rfl⟩
theorem kq_3_215 : Cond.methodLink "ParserparkLaw" 164 yL_depth ∈ kAL := List.mem_filter.mpr ⟨kin_t3 _ (List.mem_of_getElem? (i := 215) rfl), rfl⟩
theorem kq_3_216 : Cond.static yL_depth ∈ kAL := List.mem_filter.mpr ⟨kin_t3 _ (List.mem_of_getElem? (i := 216) rfl), rfl⟩
theorem kq_3_217 : Cond.codeWith yL_depth method_17_code 4 (some .int) [(0, 9, 12, 37)] ∈ kAL := List.mem_filter.mpr ⟨kin_t3 _ (List.mem_of_getElem? (i := 217) rfl), rfl⟩
theorem kq_3_218 : Cond.methodLink "ParserparkLaw" 65 yX6_depth ∈ kAL := List.mem_filter.mpr ⟨kin_t3 _ (List.mem_of_getElem? (i := 218) rfl), rfl⟩
theorem kq_3_219 : Cond.instanceMethod yX6_depth ∈ kAL := List.mem_filter.mpr ⟨kin_t3 _ (List.mem_of_getElem? (i := 219) rfl), rfl⟩
theorem kq_3_220 : Cond.selects "Parserpark" yX6_depth yX6_depth ∈ kAL := List.mem_filter.mpr ⟨kin_t3 _ (List.mem_of_getElem? (i := 220) rfl), rfl⟩
theorem kq_3_221 : Cond.code yX6_depth prog_1_method_17_code 2 (some .int) ∈ kAL := List.mem_filter.mpr ⟨kin_t3 _ (List.mem_of_getElem? (i := 221) rfl), rfl⟩
theorem kq_3_222 : Cond.methodLink "ParserparkLaw" 167 yL_colourAt ∈ kAL := List.mem_filter.mpr ⟨kin_t3 _ (List.mem_of_getElem? (i := 222) rfl), rfl⟩
theorem kq_3_223 : Cond.static yL_colourAt ∈ kAL := List.mem_filter.mpr ⟨kin_t3 _ (List.mem_of_getElem? (i := 223) rfl), rfl⟩
theorem kq_3_224 : Cond.codeWith yL_colourAt method_18_code 5 (some .int) [(0, 10, 13, 37)] ∈ kAL := List.mem_filter.mpr ⟨kin_t3 _ (List.mem_of_getElem? (i := 224) rfl), rfl⟩
theorem kq_3_225 : Cond.methodLink "ParserparkLaw" 68 yX6_colourAt ∈ kAL := List.mem_filter.mpr ⟨kin_t3 _ (List.mem_of_getElem? (i := 225) rfl), rfl⟩
theorem kq_3_226 : Cond.instanceMethod yX6_colourAt ∈ kAL := List.mem_filter.mpr ⟨kin_t3 _ (List.mem_of_getElem? (i := 226) rfl), rfl⟩
theorem kq_3_227 : Cond.selects "Parserpark" yX6_colourAt yX6_colourAt ∈ kAL := List.mem_filter.mpr ⟨kin_t3 _ (List.mem_of_getElem? (i := 227) rfl), rfl⟩
theorem kq_3_228 : Cond.code yX6_colourAt prog_1_method_18_code 4 (some .int) ∈ kAL := List.mem_filter.mpr ⟨kin_t3 _ (List.mem_of_getElem? (i := 228) rfl), rfl⟩
theorem kq_3_229 : Cond.methodLink "Parserpark" 181 yX1_colourOf ∈ kAL := List.mem_filter.mpr ⟨kin_t3 _ (List.mem_of_getElem? (i := 229) rfl), rfl⟩
theorem kq_3_230 : Cond.instanceMethod yX1_colourOf ∈ kAL := List.mem_filter.mpr ⟨kin_t3 _ (List.mem_of_getElem? (i := 230) rfl), rfl⟩
theorem kq_3_231 : Cond.selects "Parserpark$Layout" yX1_colourOf yX1_colourOf ∈ kAL := List.mem_filter.mpr ⟨kin_t3 _ (List.mem_of_getElem? (i := 231) rfl), rfl⟩
theorem kq_3_232 : Cond.code yX1_colourOf prog_3_method_9_code 2 (some .int) ∈ kAL := List.mem_filter.mpr ⟨kin_t3 _ (List.mem_of_getElem? (i := 232) rfl), rfl⟩
theorem kq_3_233 : Cond.methodLink "ParserparkLaw" 170 yL_formatted ∈ kAL := List.mem_filter.mpr ⟨kin_t3 _ (List.mem_of_getElem? (i := 233) rfl), rfl⟩
theorem kq_3_234 : Cond.static yL_formatted ∈ kAL := List.mem_filter.mpr ⟨kin_t3 _ (List.mem_of_getElem? (i := 234) rfl), rfl⟩
theorem kq_3_235 : Cond.codeWith yL_formatted method_19_code 4 (some .int) [(0, 9, 12, 37)] ∈ kAL := List.mem_filter.mpr ⟨kin_t3 _ (List.mem_of_getElem? (i := 235) rfl), rfl⟩
theorem kq_3_236 : Cond.methodLink "ParserparkLaw" 71 yX6_formatted ∈ kAL := List.mem_filter.mpr ⟨kin_t3 _ (List.mem_of_getElem? (i := 236) rfl), rfl⟩
theorem kq_3_237 : Cond.instanceMethod yX6_formatted ∈ kAL := List.mem_filter.mpr ⟨kin_t3 _ (List.mem_of_getElem? (i := 237) rfl), rfl⟩
theorem kq_3_238 : Cond.selects "Parserpark" yX6_formatted yX6_formatted ∈ kAL := List.mem_filter.mpr ⟨kin_t3 _ (List.mem_of_getElem? (i := 238) rfl), rfl⟩
theorem kq_3_239 : Cond.code yX6_formatted prog_1_method_19_code 2 (some .int) ∈ kAL := List.mem_filter.mpr ⟨kin_t3 _ (List.mem_of_getElem? (i := 239) rfl), rfl⟩
theorem kq_4_0 : Cond.methodLink "Parserpark" 184 yX1_countSigns ∈ kAL := List.mem_filter.mpr ⟨kin_t4 _ (List.mem_of_getElem? (i := 0) rfl), rfl⟩
theorem kq_4_1 : Cond.instanceMethod yX1_countSigns ∈ kAL := List.mem_filter.mpr ⟨kin_t4 _ (List.mem_of_getElem? (i := 1) rfl), rfl⟩
theorem kq_4_2 : Cond.selects "Parserpark$Layout" yX1_countSigns yX1_countSigns ∈ kAL := List.mem_filter.mpr ⟨kin_t4 _ (List.mem_of_getElem? (i := 2) rfl), rfl⟩
theorem kq_4_3 : Cond.code yX1_countSigns prog_3_method_10_code 6 (some .int) ∈ kAL := List.mem_filter.mpr ⟨kin_t4 _ (List.mem_of_getElem? (i := 3) rfl), rfl⟩
theorem kq_4_4 : Cond.methodLink "ParserparkLaw" 173 yL_formattedAt ∈ kAL := List.mem_filter.mpr ⟨kin_t4 _ (List.mem_of_getElem? (i := 4) rfl), rfl⟩
theorem kq_4_5 : Cond.static yL_formattedAt ∈ kAL := List.mem_filter.mpr ⟨kin_t4 _ (List.mem_of_getElem? (i := 5) rfl), rfl⟩
theorem kq_4_6 : Cond.codeWith yL_formattedAt method_20_code 5 (some .int) [(0, 10, 13, 37), (0, 10, 17, 21)] ∈ kAL := List.mem_filter.mpr ⟨kin_t4 _ (List.mem_of_getElem? (i := 6) rfl), rfl⟩
theorem kq_4_7 : Cond.methodLink "ParserparkLaw" 74 yX6_formattedAt ∈ kAL := List.mem_filter.mpr ⟨kin_t4 _ (List.mem_of_getElem? (i := 7) rfl), rfl⟩
theorem kq_4_8 : Cond.instanceMethod yX6_formattedAt ∈ kAL := List.mem_filter.mpr ⟨kin_t4 _ (List.mem_of_getElem? (i := 8) rfl), rfl⟩
theorem kq_4_9 : Cond.selects "Parserpark" yX6_formattedAt yX6_formattedAt ∈ kAL := List.mem_filter.mpr ⟨kin_t4 _ (List.mem_of_getElem? (i := 9) rfl), rfl⟩
theorem kq_4_10 : Cond.code yX6_formattedAt prog_1_method_20_code 4 (some .char) ∈ kAL := List.mem_filter.mpr ⟨kin_t4 _ (List.mem_of_getElem? (i := 10) rfl), rfl⟩
theorem kq_4_11 : Cond.methodLink "Parserpark" 187 yX1_sign ∈ kAL := List.mem_filter.mpr ⟨kin_t4 _ (List.mem_of_getElem? (i := 11) rfl), rfl⟩
theorem kq_4_12 : Cond.instanceMethod yX1_sign ∈ kAL := List.mem_filter.mpr ⟨kin_t4 _ (List.mem_of_getElem? (i := 12) rfl), rfl⟩
theorem kq_4_13 : Cond.selects "Parserpark$Layout" yX1_sign yX1_sign ∈ kAL := List.mem_filter.mpr ⟨kin_t4 _ (List.mem_of_getElem? (i := 13) rfl), rfl⟩
theorem kq_4_14 : Cond.code yX1_sign prog_3_method_11_code 5 (some .char) ∈ kAL := List.mem_filter.mpr ⟨kin_t4 _ (List.mem_of_getElem? (i := 14) rfl), rfl⟩
theorem kq_4_15 : Cond.methodLink "Parserpark$Layout" 120 yX3_letterOf ∈ kAL := List.mem_filter.mpr ⟨kin_t4 _ (List.mem_of_getElem? (i := 15) rfl), rfl⟩
theorem kq_4_16 : Cond.methodLink "ParserparkLaw" 176 yL_accept ∈ kAL := List.mem_filter.mpr ⟨kin_t4 _ (List.mem_of_getElem? (i := 16) rfl), rfl⟩
theorem kq_4_17 : Cond.static yL_accept ∈ kAL := List.mem_filter.mpr ⟨kin_t4 _ (List.mem_of_getElem? (i := 17) rfl), rfl⟩
theorem kq_4_18 : Cond.codeWith yL_accept method_21_code 4 (some .int) [(0, 9, 12, 37), (0, 9, 15, 15)] ∈ kAL := List.mem_filter.mpr ⟨kin_t4 _ (List.mem_of_getElem? (i := 18) rfl), rfl⟩
theorem kq_4_19 : Cond.methodLink "ParserparkLaw" 78 yX6_accept ∈ kAL := List.mem_filter.mpr ⟨kin_t4 _ (List.mem_of_getElem? (i := 19) rfl), rfl⟩
theorem kq_4_20 : Cond.instanceMethod yX6_accept ∈ kAL := List.mem_filter.mpr ⟨kin_t4 _ (List.mem_of_getElem? (i := 20) rfl), rfl⟩
theorem kq_4_21 : Cond.selects "Parserpark" yX6_accept yX6_accept ∈ kAL := List.mem_filter.mpr ⟨kin_t4 _ (List.mem_of_getElem? (i := 21) rfl), rfl⟩
theorem kq_4_22 : Cond.code yX6_accept prog_1_method_21_code 3 (some .int) ∈ kAL := List.mem_filter.mpr ⟨kin_t4 _ (List.mem_of_getElem? (i := 22) rfl), rfl⟩
theorem kq_4_23 : Cond.methodLink "Parserpark" 191 yX4_keep ∈ kAL := List.mem_filter.mpr ⟨kin_t4 _ (List.mem_of_getElem? (i := 23) rfl), rfl⟩
theorem kq_4_24 : Cond.instanceMethod yX4_keep ∈ kAL := List.mem_filter.mpr ⟨kin_t4 _ (List.mem_of_getElem? (i := 24) rfl), rfl⟩
theorem kq_4_25 : Cond.selects "Parserpark$Text" yX4_keep yX4_keep ∈ kAL := List.mem_filter.mpr ⟨kin_t4 _ (List.mem_of_getElem? (i := 25) rfl), rfl⟩
theorem kq_4_26 : Cond.code yX4_keep prog_6_method_2_code 3 (none : Option Jvm.ClassFile.FieldType) ∈ kAL := List.mem_filter.mpr ⟨kin_t4 _ (List.mem_of_getElem? (i := 26) rfl), rfl⟩
theorem kq_4_27 : Cond.methodLink "Parserpark$Text" 31 yJ9_min_7cf53 ∈ kAL := List.mem_filter.mpr ⟨kin_t4 _ (List.mem_of_getElem? (i := 27) rfl), rfl⟩
theorem kq_4_28 : Cond.methodLink "Parserpark$Text" 37 yX1_ruleNumber ∈ kAL := List.mem_filter.mpr ⟨kin_t4 _ (List.mem_of_getElem? (i := 28) rfl), rfl⟩
theorem kq_4_29 : Cond.methodLink "ParserparkLaw" 179 yL_fault ∈ kAL := List.mem_filter.mpr ⟨kin_t4 _ (List.mem_of_getElem? (i := 29) rfl), rfl⟩
theorem kq_4_30 : Cond.static yL_fault ∈ kAL := List.mem_filter.mpr ⟨kin_t4 _ (List.mem_of_getElem? (i := 30) rfl), rfl⟩
theorem kq_4_31 : Cond.codeWith yL_fault method_22_code 4 (some .int) [(0, 9, 12, 37)] ∈ kAL := List.mem_filter.mpr ⟨kin_t4 _ (List.mem_of_getElem? (i := 31) rfl), rfl⟩
theorem kq_4_32 : Cond.methodLink "ParserparkLaw" 81 yX6_fault ∈ kAL := List.mem_filter.mpr ⟨kin_t4 _ (List.mem_of_getElem? (i := 32) rfl), rfl⟩
theorem kq_4_33 : Cond.instanceMethod yX6_fault ∈ kAL := List.mem_filter.mpr ⟨kin_t4 _ (List.mem_of_getElem? (i := 33) rfl), rfl⟩
theorem kq_4_34 : Cond.selects "Parserpark" yX6_fault yX6_fault ∈ kAL := List.mem_filter.mpr ⟨kin_t4 _ (List.mem_of_getElem? (i := 34) rfl), rfl⟩
theorem kq_4_35 : Cond.code yX6_fault prog_1_method_22_code 2 (some .char) ∈ kAL := List.mem_filter.mpr ⟨kin_t4 _ (List.mem_of_getElem? (i := 35) rfl), rfl⟩
theorem kq_4_36 : Cond.methodLink "Parserpark" 195 yX6_faultOf ∈ kAL := List.mem_filter.mpr ⟨kin_t4 _ (List.mem_of_getElem? (i := 36) rfl), rfl⟩
theorem kq_4_37 : Cond.privateMethod yX6_faultOf ∈ lw_tbl := kin_t4 _ (List.mem_of_getElem? (i := 37) rfl)
theorem kq_4_38 : Cond.instanceMethod yX6_faultOf ∈ kAL := List.mem_filter.mpr ⟨kin_t4 _ (List.mem_of_getElem? (i := 38) rfl), rfl⟩
theorem kq_4_39 : Cond.code yX6_faultOf prog_1_method_43_code 3 (some .char) ∈ kAL := List.mem_filter.mpr ⟨kin_t4 _ (List.mem_of_getElem? (i := 39) rfl), rfl⟩
theorem kq_4_40 : Cond.methodLink "Parserpark" 236 yX4_hasAccepted ∈ kAL := List.mem_filter.mpr ⟨kin_t4 _ (List.mem_of_getElem? (i := 40) rfl), rfl⟩
theorem kq_4_41 : Cond.instanceMethod yX4_hasAccepted ∈ kAL := List.mem_filter.mpr ⟨kin_t4 _ (List.mem_of_getElem? (i := 41) rfl), rfl⟩
theorem kq_4_42 : Cond.selects "Parserpark$Text" yX4_hasAccepted yX4_hasAccepted ∈ kAL := List.mem_filter.mpr ⟨kin_t4 _ (List.mem_of_getElem? (i := 42) rfl), rfl⟩
theorem kq_4_43 : Cond.code yX4_hasAccepted prog_6_method_3_code 3 (some .boolean) ∈ kAL := List.mem_filter.mpr ⟨kin_t4 _ (List.mem_of_getElem? (i := 43) rfl), rfl⟩
theorem kq_4_44 : Cond.methodLink "ParserparkLaw" 182 yL_release ∈ kAL := List.mem_filter.mpr ⟨kin_t4 _ (List.mem_of_getElem? (i := 44) rfl), rfl⟩
theorem kq_4_45 : Cond.static yL_release ∈ kAL := List.mem_filter.mpr ⟨kin_t4 _ (List.mem_of_getElem? (i := 45) rfl), rfl⟩
theorem kq_4_46 : Cond.codeWith yL_release method_23_code 3 (some .int) [(0, 8, 11, 15), (0, 8, 14, 54)] ∈ kAL := List.mem_filter.mpr ⟨kin_t4 _ (List.mem_of_getElem? (i := 46) rfl), rfl⟩
theorem kq_4_47 : Cond.methodLink "ParserparkLaw" 85 yX6_release ∈ kAL := List.mem_filter.mpr ⟨kin_t4 _ (List.mem_of_getElem? (i := 47) rfl), rfl⟩
theorem kq_4_48 : Cond.instanceMethod yX6_release ∈ kAL := List.mem_filter.mpr ⟨kin_t4 _ (List.mem_of_getElem? (i := 48) rfl), rfl⟩
theorem kq_4_49 : Cond.selects "Parserpark" yX6_release yX6_release ∈ kAL := List.mem_filter.mpr ⟨kin_t4 _ (List.mem_of_getElem? (i := 49) rfl), rfl⟩
theorem kq_4_50 : Cond.code yX6_release prog_1_method_23_code 1 (some .int) ∈ kAL := List.mem_filter.mpr ⟨kin_t4 _ (List.mem_of_getElem? (i := 50) rfl), rfl⟩
theorem kq_4_51 : Cond.methodLink "Parserpark" 199 yX6_countClean ∈ kAL := List.mem_filter.mpr ⟨kin_t4 _ (List.mem_of_getElem? (i := 51) rfl), rfl⟩
theorem kq_4_52 : Cond.privateMethod yX6_countClean ∈ lw_tbl := kin_t4 _ (List.mem_of_getElem? (i := 52) rfl)
theorem kq_4_53 : Cond.instanceMethod yX6_countClean ∈ kAL := List.mem_filter.mpr ⟨kin_t4 _ (List.mem_of_getElem? (i := 53) rfl), rfl⟩
theorem kq_4_54 : Cond.code yX6_countClean prog_1_method_44_code 6 (some .int) ∈ kAL := List.mem_filter.mpr ⟨kin_t4 _ (List.mem_of_getElem? (i := 54) rfl), rfl⟩
theorem kq_4_55 : Cond.methodLink "ParserparkLaw" 186 yL_ambiguous ∈ kAL := List.mem_filter.mpr ⟨kin_t4 _ (List.mem_of_getElem? (i := 55) rfl), rfl⟩
theorem kq_4_56 : Cond.static yL_ambiguous ∈ kAL := List.mem_filter.mpr ⟨kin_t4 _ (List.mem_of_getElem? (i := 56) rfl), rfl⟩
theorem kq_4_57 : Cond.codeWith yL_ambiguous method_24_code 5 (some .int) [(0, 10, 13, 13), (0, 10, 17, 21)] ∈ kAL := List.mem_filter.mpr ⟨kin_t4 _ (List.mem_of_getElem? (i := 57) rfl), rfl⟩
theorem kq_4_58 : Cond.methodLink "ParserparkLaw" 89 yX6_ambiguous ∈ kAL := List.mem_filter.mpr ⟨kin_t4 _ (List.mem_of_getElem? (i := 58) rfl), rfl⟩
theorem kq_4_59 : Cond.instanceMethod yX6_ambiguous ∈ kAL := List.mem_filter.mpr ⟨kin_t4 _ (List.mem_of_getElem? (i := 59) rfl), rfl⟩
theorem kq_4_60 : Cond.selects "Parserpark" yX6_ambiguous yX6_ambiguous ∈ kAL := List.mem_filter.mpr ⟨kin_t4 _ (List.mem_of_getElem? (i := 60) rfl), rfl⟩
theorem kq_4_61 : Cond.code yX6_ambiguous prog_1_method_24_code 3 (some .int) ∈ kAL := List.mem_filter.mpr ⟨kin_t4 _ (List.mem_of_getElem? (i := 61) rfl), rfl⟩
theorem kq_4_62 : Cond.methodLink "Parserpark" 202 yX6_lengthOfAmbiguousRow ∈ kAL := List.mem_filter.mpr ⟨kin_t4 _ (List.mem_of_getElem? (i := 62) rfl), rfl⟩
theorem kq_4_63 : Cond.privateMethod yX6_lengthOfAmbiguousRow ∈ lw_tbl := kin_t4 _ (List.mem_of_getElem? (i := 63) rfl)
theorem kq_4_64 : Cond.instanceMethod yX6_lengthOfAmbiguousRow ∈ kAL := List.mem_filter.mpr ⟨kin_t4 _ (List.mem_of_getElem? (i := 64) rfl), rfl⟩
theorem kq_4_65 : Cond.code yX6_lengthOfAmbiguousRow prog_1_method_45_code 4 (some .int) ∈ kAL := List.mem_filter.mpr ⟨kin_t4 _ (List.mem_of_getElem? (i := 65) rfl), rfl⟩
theorem kq_4_66 : Cond.methodLink "Parserpark" 240 yX6_findAmbiguousRow ∈ kAL := List.mem_filter.mpr ⟨kin_t4 _ (List.mem_of_getElem? (i := 66) rfl), rfl⟩
theorem kq_4_67 : Cond.privateMethod yX6_findAmbiguousRow ∈ lw_tbl := kin_t4 _ (List.mem_of_getElem? (i := 67) rfl)
theorem kq_4_68 : Cond.instanceMethod yX6_findAmbiguousRow ∈ kAL := List.mem_filter.mpr ⟨kin_t4 _ (List.mem_of_getElem? (i := 68) rfl), rfl⟩
theorem kq_4_69 : Cond.code yX6_findAmbiguousRow prog_1_method_46_code 4 (some .boolean) ∈ kAL := List.mem_filter.mpr ⟨kin_t4 _ (List.mem_of_getElem? (i := 69) rfl), rfl⟩
theorem kq_4_70 : Cond.methodLink "Parserpark" 244 yX3_startRow ∈ kAL := List.mem_filter.mpr ⟨kin_t4 _ (List.mem_of_getElem? (i := 70) rfl), rfl⟩
theorem kq_4_71 : Cond.instanceMethod yX3_startRow ∈ kAL := List.mem_filter.mpr ⟨kin_t4 _ (List.mem_of_getElem? (i := 71) rfl), rfl⟩
theorem kq_4_72 : Cond.selects "Parserpark$Spans" yX3_startRow yX3_startRow ∈ kAL := List.mem_filter.mpr ⟨kin_t4 _ (List.mem_of_getElem? (i := 72) rfl), rfl⟩
theorem kq_4_73 : Cond.code yX3_startRow prog_5_method_6_code 2 (none : Option Jvm.ClassFile.FieldType) ∈ kAL := List.mem_filter.mpr ⟨kin_t4 _ (List.mem_of_getElem? (i := 73) rfl), rfl⟩
theorem kq_4_74 : Cond.methodLink "Parserpark$Spans" 36 yJ7_fill_53178 ∈ kAL := List.mem_filter.mpr ⟨kin_t4 _ (List.mem_of_getElem? (i := 74) rfl), rfl⟩
theorem kq_4_75 : Cond.methodLink "Parserpark" 247 yX3_nextRow ∈ kAL := List.mem_filter.mpr ⟨kin_t4 _ (List.mem_of_getElem? (i := 75) rfl), rfl⟩
theorem kq_4_76 : Cond.instanceMethod yX3_nextRow ∈ kAL := List.mem_filter.mpr ⟨kin_t4 _ (List.mem_of_getElem? (i := 76) rfl), rfl⟩
theorem kq_4_77 : Cond.selects "Parserpark$Spans" yX3_nextRow yX3_nextRow ∈ kAL := List.mem_filter.mpr ⟨kin_t4 _ (List.mem_of_getElem? (i := 77) rfl), rfl⟩
theorem kq_4_78 : Cond.code yX3_nextRow prog_5_method_7_code 4 (some .boolean) ∈ kAL := List.mem_filter.mpr ⟨kin_t4 _ (List.mem_of_getElem? (i := 78) rfl), rfl⟩
theorem kq_4_79 : Cond.methodLink "ParserparkLaw" 189 yL_ambiguousAt ∈ kAL := List.mem_filter.mpr ⟨kin_t4 _ (List.mem_of_getElem? (i := 79) rfl), rfl⟩
theorem kq_4_80 : Cond.static yL_ambiguousAt ∈ kAL := List.mem_filter.mpr ⟨kin_t4 _ (List.mem_of_getElem? (i := 80) rfl), rfl⟩
theorem kq_4_81 : Cond.codeWith yL_ambiguousAt method_25_code 6 (some .int) [(0, 12, 15, 13), (0, 12, 19, 21)] ∈ kAL := List.mem_filter.mpr ⟨kin_t4 _ (List.mem_of_getElem? (i := 81) rfl), rfl⟩
theorem kq_4_82 : Cond.methodLink "ParserparkLaw" 92 yX6_ambiguousAt ∈ kAL := List.mem_filter.mpr ⟨kin_t4 _ (List.mem_of_getElem? (i := 82) rfl), rfl⟩
theorem kq_4_83 : Cond.instanceMethod yX6_ambiguousAt ∈ kAL := List.mem_filter.mpr ⟨kin_t4 _ (List.mem_of_getElem? (i := 83) rfl), rfl⟩
theorem kq_4_84 : Cond.selects "Parserpark" yX6_ambiguousAt yX6_ambiguousAt ∈ kAL := List.mem_filter.mpr ⟨kin_t4 _ (List.mem_of_getElem? (i := 84) rfl), rfl⟩
theorem kq_4_85 : Cond.code yX6_ambiguousAt prog_1_method_25_code 5 (some .int) ∈ kAL := List.mem_filter.mpr ⟨kin_t4 _ (List.mem_of_getElem? (i := 85) rfl), rfl⟩
theorem kq_4_86 : Cond.methodLink "ParserparkLaw" 197 yL_cleanShare ∈ kAL := List.mem_filter.mpr ⟨kin_t4 _ (List.mem_of_getElem? (i := 86) rfl), rfl⟩
theorem kq_4_87 : Cond.static yL_cleanShare ∈ kAL := List.mem_filter.mpr ⟨kin_t4 _ (List.mem_of_getElem? (i := 87) rfl), rfl⟩
theorem kq_4_88 : Cond.codeWith yL_cleanShare method_26_code 3 (some .int) [(0, 8, 11, 99)] ∈ kAL := List.mem_filter.mpr ⟨kin_t4 _ (List.mem_of_getElem? (i := 88) rfl), rfl⟩
theorem kq_4_89 : Cond.classLink "ParserparkLaw" 99 "java/lang/ArithmeticException" ∈ kAL := List.mem_filter.mpr ⟨kin_t4 _ (List.mem_of_getElem? (i := 89) rfl), rfl⟩
theorem kq_4_90 : Cond.instantiable "java/lang/ArithmeticException" 6 ∈ kAL := List.mem_filter.mpr ⟨kin_t4 _ (List.mem_of_getElem? (i := 90) rfl), rfl⟩
theorem kq_4_91 : Cond.instanceMethod (⟨"java/lang/ArithmeticException", "<init>", "(Ljava/lang/String;)V"⟩ : MethodName) ∈ kAL := List.mem_filter.mpr ⟨kin_t4 _ (List.mem_of_getElem? (i := 91) rfl), rfl⟩
theorem kq_4_92 : Cond.code (⟨"java/lang/ArithmeticException", "<init>", "(Ljava/lang/String;)V"⟩ : MethodName) prog_11_method_2_code 2 (none : Option Jvm.ClassFile.FieldType) ∈ kAL := List.mem_filter.mpr ⟨kin_t4 _ (List.mem_of_getElem? (i := 92) rfl), rfl⟩
theorem kq_4_93 : Cond.methodLink "java/lang/ArithmeticException" 7 (⟨"java/lang/RuntimeException", "<init>", "(Ljava/lang/String;)V"⟩ : MethodName) ∈ kAL := List.mem_filter.mpr ⟨kin_t4 _ (List.mem_of_getElem? (i := 93) rfl), rfl⟩
theorem kq_4_94 : Cond.lays "java/lang/ArithmeticException" "java/lang/Throwable" "backtrace" "Ljava/lang/Object;" ∈ kAL := List.mem_filter.mpr ⟨kin_t4 _ (List.mem_of_getElem? (i := 94) rfl), rfl⟩
theorem kq_4_95 : Cond.lays "java/lang/ArithmeticException" "java/lang/Throwable" "detailMessage" "Ljava/lang/String;" ∈ kAL := List.mem_filter.mpr ⟨kin_t4 _ (List.mem_of_getElem? (i := 95) rfl), rfl⟩
theorem kq_4_96 : Cond.lays "java/lang/ArithmeticException" "java/lang/Throwable" "cause" "Ljava/lang/Throwable;" ∈ kAL := List.mem_filter.mpr ⟨kin_t4 _ (List.mem_of_getElem? (i := 96) rfl), rfl⟩
theorem kq_4_97 : Cond.lays "java/lang/ArithmeticException" "java/lang/Throwable" "stackTrace" "[Ljava/lang/StackTraceElement;" ∈ kAL := List.mem_filter.mpr ⟨kin_t4 _ (List.mem_of_getElem? (i := 97) rfl), rfl⟩
theorem kq_4_98 : Cond.lays "java/lang/ArithmeticException" "java/lang/Throwable" "depth" "I" ∈ kAL := List.mem_filter.mpr ⟨kin_t4 _ (List.mem_of_getElem? (i := 98) rfl), rfl⟩
theorem kq_4_99 : Cond.lays "java/lang/ArithmeticException" "java/lang/Throwable" "suppressedExceptions" "Ljava/util/List;" ∈ kAL := List.mem_filter.mpr ⟨kin_t4 _ (List.mem_of_getElem? (i := 99) rfl), rfl⟩
theorem kq_4_100 : Cond.superclass "java/lang/ArithmeticException" "java/lang/RuntimeException" ∈ lw_tbl := kin_t4 _ (List.mem_of_getElem? (i := 100) rfl)
theorem kq_4_101 : Cond.castable "java/lang/ArithmeticException" "java/lang/ArithmeticException" ∈ kBL := List.mem_filter.mpr ⟨kin_t4 _ (List.mem_of_getElem? (i := 101) rfl), rfl⟩
theorem kq_4_102 : Cond.selects "java/lang/ArithmeticException" (⟨"java/lang/Throwable", "fillInStackTrace", "(I)Ljava/lang/Throwable;"⟩ : MethodName) (⟨"java/lang/Throwable", "fillInStackTrace", "(I)Ljava/lang/Throwable;"⟩ : MethodName) ∈ kAL := List.mem_filter.mpr ⟨kin_t4 _ (List.mem_of_getElem? (i := 102) rfl), rfl⟩
theorem kq_4_103 : Cond.methodLink "ParserparkLaw" 95 yX6_cleanShare ∈ kAL := List.mem_filter.mpr ⟨kin_t4 _ (List.mem_of_getElem? (i := 103) rfl), rfl⟩
theorem kq_4_104 : Cond.instanceMethod yX6_cleanShare ∈ kAL := List.mem_filter.mpr ⟨kin_t4 _ (List.mem_of_getElem? (i := 104) rfl), rfl⟩
theorem kq_4_105 : Cond.selects "Parserpark" yX6_cleanShare yX6_cleanShare ∈ kAL := List.mem_filter.mpr ⟨kin_t4 _ (List.mem_of_getElem? (i := 105) rfl), rfl⟩
theorem kq_4_106 : Cond.code yX6_cleanShare prog_1_method_27_code 1 (some .float) ∈ kAL := List.mem_filter.mpr ⟨kin_t4 _ (List.mem_of_getElem? (i := 106) rfl), rfl⟩
theorem kq_4_107 : Cond.classLink "Parserpark" 206 "java/lang/ArithmeticException" ∈ kAL := List.mem_filter.mpr ⟨kin_t4 _ (List.mem_of_getElem? (i := 107) rfl), rfl⟩
theorem kq_4_108 : Cond.methodLink "Parserpark" 208 (⟨"java/lang/ArithmeticException", "<init>", "()V"⟩ : MethodName) ∈ kAL := List.mem_filter.mpr ⟨kin_t4 _ (List.mem_of_getElem? (i := 108) rfl), rfl⟩
theorem kq_4_109 : Cond.instanceMethod (⟨"java/lang/ArithmeticException", "<init>", "()V"⟩ : MethodName) ∈ kAL := List.mem_filter.mpr ⟨kin_t4 _ (List.mem_of_getElem? (i := 109) rfl), rfl⟩
theorem kq_4_110 : Cond.code (⟨"java/lang/ArithmeticException", "<init>", "()V"⟩ : MethodName) prog_11_method_1_code 1 (none : Option Jvm.ClassFile.FieldType) ∈ kAL := List.mem_filter.mpr ⟨kin_t4 _ (List.mem_of_getElem? (i := 110) rfl), rfl⟩
theorem kq_4_111 : Cond.methodLink "java/lang/ArithmeticException" 1 (⟨"java/lang/RuntimeException", "<init>", "()V"⟩ : MethodName) ∈ kAL := List.mem_filter.mpr ⟨kin_t4 _ (List.mem_of_getElem? (i := 111) rfl), rfl⟩
theorem kq_4_112 : Cond.methodLink "ParserparkLaw" 201 yL_meanTrees ∈ kAL := List.mem_filter.mpr ⟨kin_t4 _ (List.mem_of_getElem? (i := 112) rfl), rfl⟩
theorem kq_4_113 : Cond.static yL_meanTrees ∈ kAL := List.mem_filter.mpr ⟨kin_t4 _ (List.mem_of_getElem? (i := 113) rfl), rfl⟩
theorem kq_4_114 : Cond.codeWith yL_meanTrees method_27_code 3 (some .int) [(0, 7, 10, 99)] ∈ kAL := List.mem_filter.mpr ⟨kin_t4 _ (List.mem_of_getElem? (i := 114) rfl), rfl⟩
theorem kq_4_115 : Cond.methodLink "ParserparkLaw" 101 yX6_meanTrees ∈ kAL := List.mem_filter.mpr ⟨kin_t4 _ (List.mem_of_getElem? (i := 115) rfl), rfl⟩
theorem kq_4_116 : Cond.instanceMethod yX6_meanTrees ∈ kAL := List.mem_filter.mpr ⟨kin_t4 _ (List.mem_of_getElem? (i := 116) rfl), rfl⟩
theorem kq_4_117 : Cond.selects "Parserpark" yX6_meanTrees yX6_meanTrees ∈ kAL := List.mem_filter.mpr ⟨kin_t4 _ (List.mem_of_getElem? (i := 117) rfl), rfl⟩
theorem kq_4_118 : Cond.code yX6_meanTrees prog_1_method_28_code 6 (some .double) ∈ kAL := List.mem_filter.mpr ⟨kin_t4 _ (List.mem_of_getElem? (i := 118) rfl), rfl⟩
theorem kq_4_119 : Cond.classLink "ParserparkLaw" 106 "ParserparkModel" ∈ kAL := List.mem_filter.mpr ⟨kin_t4 _ (List.mem_of_getElem? (i := 119) rfl), rfl⟩
theorem kq_4_120 : Cond.instantiable "ParserparkModel" 25 ∈ kAL := List.mem_filter.mpr ⟨kin_t4 _ (List.mem_of_getElem? (i := 120) rfl), rfl⟩
theorem kq_4_121 : Cond.methodLink "ParserparkLaw" 108 yX7_init ∈ kAL := List.mem_filter.mpr ⟨kin_t4 _ (List.mem_of_getElem? (i := 121) rfl), rfl⟩
theorem kq_4_122 : Cond.instanceMethod yX7_init ∈ kAL := List.mem_filter.mpr ⟨kin_t4 _ (List.mem_of_getElem? (i := 122) rfl), rfl⟩
theorem kq_4_123 : Cond.code yX7_init prog_9_method_1_code 1 (none : Option Jvm.ClassFile.FieldType) ∈ kAL := List.mem_filter.mpr ⟨kin_t4 _ (List.mem_of_getElem? (i := 123) rfl), rfl⟩
theorem kq_4_124 : Cond.methodLink "ParserparkModel" 1 (⟨"java/lang/Object", "<init>", "()V"⟩ : MethodName) ∈ kAL := List.mem_filter.mpr ⟨kin_t4 _ (List.mem_of_getElem? (i := 124) rfl), rfl⟩
theorem kq_4_125 : Cond.fieldLink "ParserparkModel" 7 "ParserparkModel" "lefts" "[I" ∈ kAL := List.mem_filter.mpr ⟨kin_t4 _ (List.mem_of_getElem? (i := 125) rfl), rfl⟩
theorem kq_4_126 : Cond.fieldLink "ParserparkModel" 13 "ParserparkModel" "rights" "[I" ∈ kAL := List.mem_filter.mpr ⟨kin_t4 _ (List.mem_of_getElem? (i := 126) rfl), rfl⟩
theorem kq_4_127 : Cond.fieldLink "ParserparkModel" 16 "ParserparkModel" "many" "[I" ∈ kAL := List.mem_filter.mpr ⟨kin_t4 _ (List.mem_of_getElem? (i := 127) rfl), rfl⟩
theorem kq_4_128 : Cond.fieldLink "ParserparkModel" 19 "ParserparkModel" "ranks" "[I" ∈ kAL := List.mem_filter.mpr ⟨kin_t4 _ (List.mem_of_getElem? (i := 128) rfl), rfl⟩
theorem kq_4_129 : Cond.fieldLink "ParserparkModel" 22 "ParserparkModel" "colours" "[I" ∈ kAL := List.mem_filter.mpr ⟨kin_t4 _ (List.mem_of_getElem? (i := 129) rfl), rfl⟩
theorem kq_4_130 : Cond.fieldLink "ParserparkModel" 25 "ParserparkModel" "gaps" "[I" ∈ kAL := List.mem_filter.mpr ⟨kin_t4 _ (List.mem_of_getElem? (i := 130) rfl), rfl⟩
theorem kq_4_131 : Cond.fieldLink "ParserparkModel" 28 "ParserparkModel" "isGone" "[Z" ∈ kAL := List.mem_filter.mpr ⟨kin_t4 _ (List.mem_of_getElem? (i := 131) rfl), rfl⟩
theorem kq_4_132 : Cond.fieldLink "ParserparkModel" 96 "ParserparkModel" "rules" "I" ∈ kAL := List.mem_filter.mpr ⟨kin_t4 _ (List.mem_of_getElem? (i := 132) rfl), rfl⟩
theorem kq_4_133 : Cond.fieldLink "ParserparkModel" 32 "ParserparkModel" "letters" "[I" ∈ kAL := List.mem_filter.mpr ⟨kin_t4 _ (List.mem_of_getElem? (i := 133) rfl), rfl⟩
theorem kq_4_134 : Cond.fieldLink "ParserparkModel" 35 "ParserparkModel" "lengths" "[I" ∈ kAL := List.mem_filter.mpr ⟨kin_t4 _ (List.mem_of_getElem? (i := 134) rfl), rfl⟩
theorem kq_4_135 : Cond.fieldLink "ParserparkModel" 38 "ParserparkModel" "accepted" "[I" ∈ kAL := List.mem_filter.mpr ⟨kin_t4 _ (List.mem_of_getElem? (i := 135) rfl), rfl⟩
theorem kq_4_136 : Cond.fieldLink "ParserparkModel" 41 "ParserparkModel" "acceptedMany" "[I" ∈ kAL := List.mem_filter.mpr ⟨kin_t4 _ (List.mem_of_getElem? (i := 136) rfl), rfl⟩
theorem kq_4_137 : Cond.fieldLink "ParserparkModel" 134 "ParserparkModel" "texts" "I" ∈ kAL := List.mem_filter.mpr ⟨kin_t4 _ (List.mem_of_getElem? (i := 137) rfl), rfl⟩
theorem kq_4_138 : Cond.fieldLink "ParserparkModel" 137 "ParserparkModel" "work" "J" ∈ kAL := List.mem_filter.mpr ⟨kin_t4 _ (List.mem_of_getElem? (i := 138) rfl), rfl⟩
theorem kq_4_139 : Cond.fieldLink "ParserparkModel" 175 "ParserparkModel" "releases" "I" ∈ kAL := List.mem_filter.mpr ⟨kin_t4 _ (List.mem_of_getElem? (i := 139) rfl), rfl⟩
theorem kq_4_140 : Cond.fieldLink "ParserparkModel" 44 "ParserparkModel" "row" "[I" ∈ kAL := List.mem_filter.mpr ⟨kin_t4 _ (List.mem_of_getElem? (i := 140) rfl), rfl⟩
theorem kq_4_141 : Cond.fieldLink "ParserparkModel" 93 "ParserparkModel" "size" "I" ∈ kAL := List.mem_filter.mpr ⟨kin_t4 _ (List.mem_of_getElem? (i := 141) rfl), rfl⟩
theorem kq_4_142 : Cond.fieldLink "ParserparkModel" 47 "ParserparkModel" "counts" "[I" ∈ kAL := List.mem_filter.mpr ⟨kin_t4 _ (List.mem_of_getElem? (i := 142) rfl), rfl⟩
theorem kq_4_143 : Cond.fieldLink "ParserparkModel" 50 "ParserparkModel" "tree" "[I" ∈ kAL := List.mem_filter.mpr ⟨kin_t4 _ (List.mem_of_getElem? (i := 143) rfl), rfl⟩
theorem kq_4_144 : Cond.fieldLink "ParserparkModel" 115 "ParserparkModel" "treeMany" "I" ∈ kAL := List.mem_filter.mpr ⟨kin_t4 _ (List.mem_of_getElem? (i := 144) rfl), rfl⟩
theorem kq_4_145 : Cond.fieldLink "ParserparkModel" 53 "ParserparkModel" "shades" "[I" ∈ kAL := List.mem_filter.mpr ⟨kin_t4 _ (List.mem_of_getElem? (i := 145) rfl), rfl⟩
theorem kq_4_146 : Cond.fieldLink "ParserparkModel" 56 "ParserparkModel" "signs" "[C" ∈ kAL := List.mem_filter.mpr ⟨kin_t4 _ (List.mem_of_getElem? (i := 146) rfl), rfl⟩
theorem kq_4_147 : Cond.fieldLink "ParserparkModel" 109 "ParserparkModel" "signMany" "I" ∈ kAL := List.mem_filter.mpr ⟨kin_t4 _ (List.mem_of_getElem? (i := 147) rfl), rfl⟩
theorem kq_4_148 : Cond.fieldLink "ParserparkModel" 118 "ParserparkModel" "deepest" "I" ∈ kAL := List.mem_filter.mpr ⟨kin_t4 _ (List.mem_of_getElem? (i := 148) rfl), rfl⟩
theorem kq_4_149 : Cond.fieldLink "ParserparkModel" 60 "ParserparkModel" "thrown" "I" ∈ kAL := List.mem_filter.mpr ⟨kin_t4 _ (List.mem_of_getElem? (i := 149) rfl), rfl⟩
theorem kq_4_150 : Cond.laysFinal "ParserparkModel" "ParserparkModel" "lefts" "[I" ∈ kAL := List.mem_filter.mpr ⟨kin_t4 _ (List.mem_of_getElem? (i := 150) rfl), rfl⟩
theorem kq_4_151 : Cond.soleField "ParserparkModel" "lefts" ∈ lw_tbl := kin_t4 _ (List.mem_of_getElem? (i := 151) rfl)
theorem kq_4_152 : Cond.laysFinal "ParserparkModel" "ParserparkModel" "rights" "[I" ∈ kAL := List.mem_filter.mpr ⟨kin_t4 _ (List.mem_of_getElem? (i := 152) rfl), rfl⟩
theorem kq_4_153 : Cond.soleField "ParserparkModel" "rights" ∈ lw_tbl := kin_t4 _ (List.mem_of_getElem? (i := 153) rfl)
theorem kq_4_154 : Cond.laysFinal "ParserparkModel" "ParserparkModel" "many" "[I" ∈ kAL := List.mem_filter.mpr ⟨kin_t4 _ (List.mem_of_getElem? (i := 154) rfl), rfl⟩
theorem kq_4_155 : Cond.soleField "ParserparkModel" "many" ∈ lw_tbl := kin_t4 _ (List.mem_of_getElem? (i := 155) rfl)
theorem kq_4_156 : Cond.laysFinal "ParserparkModel" "ParserparkModel" "ranks" "[I" ∈ kAL := List.mem_filter.mpr ⟨kin_t4 _ (List.mem_of_getElem? (i := 156) rfl), rfl⟩
theorem kq_4_157 : Cond.soleField "ParserparkModel" "ranks" ∈ lw_tbl := kin_t4 _ (List.mem_of_getElem? (i := 157) rfl)
theorem kq_4_158 : Cond.laysFinal "ParserparkModel" "ParserparkModel" "colours" "[I" ∈ kAL := List.mem_filter.mpr ⟨kin_t4 _ (List.mem_of_getElem? (i := 158) rfl), rfl⟩
theorem kq_4_159 : Cond.soleField "ParserparkModel" "colours" ∈ lw_tbl := kin_t4 _ (List.mem_of_getElem? (i := 159) rfl)
theorem kq_4_160 : Cond.laysFinal "ParserparkModel" "ParserparkModel" "gaps" "[I" ∈ kAL := List.mem_filter.mpr ⟨kin_t4 _ (List.mem_of_getElem? (i := 160) rfl), rfl⟩
theorem kq_4_161 : Cond.soleField "ParserparkModel" "gaps" ∈ lw_tbl := kin_t4 _ (List.mem_of_getElem? (i := 161) rfl)
theorem kq_4_162 : Cond.laysFinal "ParserparkModel" "ParserparkModel" "isGone" "[Z" ∈ kAL := List.mem_filter.mpr ⟨kin_t4 _ (List.mem_of_getElem? (i := 162) rfl), rfl⟩
theorem kq_4_163 : Cond.soleField "ParserparkModel" "isGone" ∈ lw_tbl := kin_t4 _ (List.mem_of_getElem? (i := 163) rfl)
theorem kq_4_164 : Cond.lays "ParserparkModel" "ParserparkModel" "rules" "I" ∈ kAL := List.mem_filter.mpr ⟨kin_t4 _ (List.mem_of_getElem? (i := 164) rfl), rfl⟩
theorem kq_4_165 : Cond.soleField "ParserparkModel" "rules" ∈ lw_tbl := kin_t4 _ (List.mem_of_getElem? (i := 165) rfl)
theorem kq_4_166 : Cond.laysFinal "ParserparkModel" "ParserparkModel" "letters" "[I" ∈ kAL := List.mem_filter.mpr ⟨kin_t4 _ (List.mem_of_getElem? (i := 166) rfl), rfl⟩
theorem kq_4_167 : Cond.soleField "ParserparkModel" "letters" ∈ lw_tbl := kin_t4 _ (List.mem_of_getElem? (i := 167) rfl)
theorem kq_4_168 : Cond.laysFinal "ParserparkModel" "ParserparkModel" "lengths" "[I" ∈ kAL := List.mem_filter.mpr ⟨kin_t4 _ (List.mem_of_getElem? (i := 168) rfl), rfl⟩
theorem kq_4_169 : Cond.soleField "ParserparkModel" "lengths" ∈ lw_tbl := kin_t4 _ (List.mem_of_getElem? (i := 169) rfl)
theorem kq_4_170 : Cond.laysFinal "ParserparkModel" "ParserparkModel" "accepted" "[I" ∈ kAL := List.mem_filter.mpr ⟨kin_t4 _ (List.mem_of_getElem? (i := 170) rfl), rfl⟩
theorem kq_4_171 : Cond.soleField "ParserparkModel" "accepted" ∈ lw_tbl := kin_t4 _ (List.mem_of_getElem? (i := 171) rfl)
theorem kq_4_172 : Cond.laysFinal "ParserparkModel" "ParserparkModel" "acceptedMany" "[I" ∈ kAL := List.mem_filter.mpr ⟨kin_t4 _ (List.mem_of_getElem? (i := 172) rfl), rfl⟩
theorem kq_4_173 : Cond.soleField "ParserparkModel" "acceptedMany" ∈ lw_tbl := kin_t4 _ (List.mem_of_getElem? (i := 173) rfl)
theorem kq_4_174 : Cond.lays "ParserparkModel" "ParserparkModel" "texts" "I" ∈ kAL := List.mem_filter.mpr ⟨kin_t4 _ (List.mem_of_getElem? (i := 174) rfl), rfl⟩
theorem kq_4_175 : Cond.soleField "ParserparkModel" "texts" ∈ lw_tbl := kin_t4 _ (List.mem_of_getElem? (i := 175) rfl)
theorem kq_4_176 : Cond.lays "ParserparkModel" "ParserparkModel" "work" "J" ∈ kAL := List.mem_filter.mpr ⟨kin_t4 _ (List.mem_of_getElem? (i := 176) rfl), rfl⟩
theorem kq_4_177 : Cond.soleField "ParserparkModel" "work" ∈ lw_tbl := kin_t4 _ (List.mem_of_getElem? (i := 177) rfl)
theorem kq_4_178 : Cond.lays "ParserparkModel" "ParserparkModel" "releases" "I" ∈ kAL := List.mem_filter.mpr ⟨kin_t4 _ (List.mem_of_getElem? (i := 178) rfl), rfl⟩
theorem kq_4_179 : Cond.soleField "ParserparkModel" "releases" ∈ lw_tbl := kin_t4 _ (List.mem_of_getElem? (i := 179) rfl)
theorem kq_4_180 : Cond.laysFinal "ParserparkModel" "ParserparkModel" "row" "[I" ∈ kAL := List.mem_filter.mpr ⟨kin_t4 _ (List.mem_of_getElem? (i := 180) rfl), rfl⟩
theorem kq_4_181 : Cond.soleField "ParserparkModel" "row" ∈ lw_tbl := kin_t4 _ (List.mem_of_getElem? (i := 181) rfl)
theorem kq_4_182 : Cond.lays "ParserparkModel" "ParserparkModel" "size" "I" ∈ kAL := List.mem_filter.mpr ⟨kin_t4 _ (List.mem_of_getElem? (i := 182) rfl), rfl⟩
theorem kq_4_183 : Cond.soleField "ParserparkModel" "size" ∈ lw_tbl := kin_t4 _ (List.mem_of_getElem? (i := 183) rfl)
theorem kq_4_184 : Cond.laysFinal "ParserparkModel" "ParserparkModel" "counts" "[I" ∈ kAL := List.mem_filter.mpr ⟨kin_t4 _ (List.mem_of_getElem? (i := 184) rfl), rfl⟩
theorem kq_4_185 : Cond.soleField "ParserparkModel" "counts" ∈ lw_tbl := kin_t4 _ (List.mem_of_getElem? (i := 185) rfl)
theorem kq_4_186 : Cond.laysFinal "ParserparkModel" "ParserparkModel" "tree" "[I" ∈ kAL := List.mem_filter.mpr ⟨kin_t4 _ (List.mem_of_getElem? (i := 186) rfl), rfl⟩
theorem kq_4_187 : Cond.soleField "ParserparkModel" "tree" ∈ lw_tbl := kin_t4 _ (List.mem_of_getElem? (i := 187) rfl)
theorem kq_4_188 : Cond.lays "ParserparkModel" "ParserparkModel" "treeMany" "I" ∈ kAL := List.mem_filter.mpr ⟨kin_t4 _ (List.mem_of_getElem? (i := 188) rfl), rfl⟩
theorem kq_4_189 : Cond.soleField "ParserparkModel" "treeMany" ∈ lw_tbl := kin_t4 _ (List.mem_of_getElem? (i := 189) rfl)
theorem kq_4_190 : Cond.laysFinal "ParserparkModel" "ParserparkModel" "shades" "[I" ∈ kAL := List.mem_filter.mpr ⟨kin_t4 _ (List.mem_of_getElem? (i := 190) rfl), rfl⟩
theorem kq_4_191 : Cond.soleField "ParserparkModel" "shades" ∈ lw_tbl := kin_t4 _ (List.mem_of_getElem? (i := 191) rfl)
theorem kq_4_192 : Cond.laysFinal "ParserparkModel" "ParserparkModel" "signs" "[C" ∈ kAL := List.mem_filter.mpr ⟨kin_t4 _ (List.mem_of_getElem? (i := 192) rfl), rfl⟩
theorem kq_4_193 : Cond.soleField "ParserparkModel" "signs" ∈ lw_tbl := kin_t4 _ (List.mem_of_getElem? (i := 193) rfl)
theorem kq_4_194 : Cond.lays "ParserparkModel" "ParserparkModel" "signMany" "I" ∈ kAL := List.mem_filter.mpr ⟨kin_t4 _ (List.mem_of_getElem? (i := 194) rfl), rfl⟩
theorem kq_4_195 : Cond.soleField "ParserparkModel" "signMany" ∈ lw_tbl := kin_t4 _ (List.mem_of_getElem? (i := 195) rfl)
theorem kq_4_196 : Cond.lays "ParserparkModel" "ParserparkModel" "deepest" "I" ∈ kAL := List.mem_filter.mpr ⟨kin_t4 _ (List.mem_of_getElem? (i := 196) rfl), rfl⟩
theorem kq_4_197 : Cond.soleField "ParserparkModel" "deepest" ∈ lw_tbl := kin_t4 _ (List.mem_of_getElem? (i := 197) rfl)
theorem kq_4_198 : Cond.lays "ParserparkModel" "ParserparkModel" "thrown" "I" ∈ kAL := List.mem_filter.mpr ⟨kin_t4 _ (List.mem_of_getElem? (i := 198) rfl), rfl⟩
theorem kq_4_199 : Cond.soleField "ParserparkModel" "thrown" ∈ lw_tbl := kin_t4 _ (List.mem_of_getElem? (i := 199) rfl)
theorem kq_4_200 : Cond.superclass "ParserparkModel" "java/lang/Object" ∈ lw_tbl := kin_t4 _ (List.mem_of_getElem? (i := 200) rfl)
theorem kq_4_201 : Cond.arrayClass .boolean ∈ kAL := List.mem_filter.mpr ⟨kin_t4 _ (List.mem_of_getElem? (i := 201) rfl), rfl⟩
theorem kq_4_202 : Cond.arrayClass .char ∈ kAL := List.mem_filter.mpr ⟨kin_t4 _ (List.mem_of_getElem? (i := 202) rfl), rfl⟩
theorem kq_4_203 : Cond.methodLink "ParserparkLaw" 115 yX7_thrown ∈ kAL := List.mem_filter.mpr ⟨kin_t4 _ (List.mem_of_getElem? (i := 203) rfl), rfl⟩
theorem kq_4_204 : Cond.instanceMethod yX7_thrown ∈ kAL := List.mem_filter.mpr ⟨kin_t4 _ (List.mem_of_getElem? (i := 204) rfl), rfl⟩
theorem kq_4_205 : Cond.selects "ParserparkModel" yX7_thrown yX7_thrown ∈ kAL := List.mem_filter.mpr ⟨kin_t4 _ (List.mem_of_getElem? (i := 205) rfl), rfl⟩
theorem kq_4_206 : Cond.code yX7_thrown prog_9_method_2_code 1 (some .int) ∈ kAL := List.mem_filter.mpr ⟨kin_t4 _ (List.mem_of_getElem? (i := 206) rfl), rfl⟩
theorem kq_4_207 : Cond.methodLink "ParserparkLaw" 114 yX7_addRule ∈ kAL := List.mem_filter.mpr ⟨kin_t4 _ (List.mem_of_getElem? (i := 207) rfl), rfl⟩
theorem kq_4_208 : Cond.instanceMethod yX7_addRule ∈ kAL := List.mem_filter.mpr ⟨kin_t4 _ (List.mem_of_getElem? (i := 208) rfl), rfl⟩
theorem kq_4_209 : Cond.selects "ParserparkModel" yX7_addRule yX7_addRule ∈ kAL := List.mem_filter.mpr ⟨kin_t4 _ (List.mem_of_getElem? (i := 209) rfl), rfl⟩
theorem kq_4_210 : Cond.code yX7_addRule prog_9_method_20_code 6 (some .int) ∈ kAL := List.mem_filter.mpr ⟨kin_t4 _ (List.mem_of_getElem? (i := 210) rfl), rfl⟩
theorem kq_4_211 : Cond.methodLink "ParserparkModel" 74 yX7_isName ∈ kAL := List.mem_filter.mpr ⟨kin_t4 _ (List.mem_of_getElem? (i := 211) rfl), rfl⟩
theorem kq_4_212 : Cond.static yX7_isName ∈ kAL := List.mem_filter.mpr ⟨kin_t4 _ (List.mem_of_getElem? (i := 212) rfl), rfl⟩
theorem kq_4_213 : Cond.code yX7_isName prog_9_method_4_code 1 (some .boolean) ∈ kAL := List.mem_filter.mpr ⟨kin_t4 _ (List.mem_of_getElem? (i := 213) rfl), rfl⟩
theorem kq_4_214 : Cond.constantLong "ParserparkModel" 64 (10 : Int64) ∈ kAL := List.mem_filter.mpr ⟨kin_t4 _ (List.mem_of_getElem? (i := 214) rfl), rfl⟩
theorem kq_4_215 : Cond.constantLong "ParserparkModel" 66 (14 : Int64) ∈ kAL := List.mem_filter.mpr ⟨kin_t4 _ (List.mem_of_getElem? (i := 215) rfl), rfl⟩
theorem kq_4_216 : Cond.methodLink "ParserparkModel" 68 yX7_in ∈ kAL := List.mem_filter.mpr ⟨kin_t4 _ (List.mem_of_getElem? (i := 216) rfl), rfl⟩
theorem kq_4_217 : Cond.static yX7_in ∈ kAL := List.mem_filter.mpr ⟨kin_t4 _ (List.mem_of_getElem? (i := 217) rfl), rfl⟩
theorem kq_4_218 : Cond.code yX7_in prog_9_method_3_code 6 (some .boolean) ∈ kAL := List.mem_filter.mpr ⟨kin_t4 _ (List.mem_of_getElem? (i := 218) rfl), rfl⟩
theorem kq_4_219 : Cond.methodLink "ParserparkModel" 141 yX7_isSymbol ∈ kAL := List.mem_filter.mpr ⟨kin_t4 _ (List.mem_of_getElem? (i := 219) rfl), rfl⟩
theorem kq_4_220 : Cond.static yX7_isSymbol ∈ kAL := List.mem_filter.mpr ⟨kin_t4 _ (List.mem_of_getElem? (i := 220) rfl), rfl⟩
theorem kq_4_221 : Cond.code yX7_isSymbol prog_9_method_6_code 1 (some .boolean) ∈ kAL := List.mem_filter.mpr ⟨kin_t4 _ (List.mem_of_getElem? (i := 221) rfl), rfl⟩
theorem kq_4_222 : Cond.methodLink "ParserparkModel" 78 yX7_isLetter ∈ kAL := List.mem_filter.mpr ⟨kin_t4 _ (List.mem_of_getElem? (i := 222) rfl), rfl⟩
theorem kq_4_223 : Cond.static yX7_isLetter ∈ kAL := List.mem_filter.mpr ⟨kin_t4 _ (List.mem_of_getElem? (i := 223) rfl), rfl⟩
theorem kq_4_224 : Cond.code yX7_isLetter prog_9_method_5_code 1 (some .boolean) ∈ kAL := List.mem_filter.mpr ⟨kin_t4 _ (List.mem_of_getElem? (i := 224) rfl), rfl⟩
theorem kq_4_225 : Cond.constantLong "ParserparkModel" 72 (7 : Int64) ∈ kAL := List.mem_filter.mpr ⟨kin_t4 _ (List.mem_of_getElem? (i := 225) rfl), rfl⟩
theorem kq_4_226 : Cond.methodLink "ParserparkModel" 144 yX7_touched ∈ kAL := List.mem_filter.mpr ⟨kin_t4 _ (List.mem_of_getElem? (i := 226) rfl), rfl⟩
theorem kq_4_227 : Cond.privateMethod yX7_touched ∈ lw_tbl := kin_t4 _ (List.mem_of_getElem? (i := 227) rfl)
theorem kq_4_228 : Cond.instanceMethod yX7_touched ∈ kAL := List.mem_filter.mpr ⟨kin_t4 _ (List.mem_of_getElem? (i := 228) rfl), rfl⟩
theorem kq_4_229 : Cond.code yX7_touched prog_9_method_19_code 9 (some .int) ∈ kAL := List.mem_filter.mpr ⟨kin_t4 _ (List.mem_of_getElem? (i := 229) rfl), rfl⟩
theorem kq_4_230 : Cond.methodLink "ParserparkLaw" 121 yX7_dropRule ∈ kAL := List.mem_filter.mpr ⟨kin_t4 _ (List.mem_of_getElem? (i := 230) rfl), rfl⟩
theorem kq_4_231 : Cond.instanceMethod yX7_dropRule ∈ kAL := List.mem_filter.mpr ⟨kin_t4 _ (List.mem_of_getElem? (i := 231) rfl), rfl⟩
theorem kq_4_232 : Cond.selects "ParserparkModel" yX7_dropRule yX7_dropRule ∈ kAL := List.mem_filter.mpr ⟨kin_t4 _ (List.mem_of_getElem? (i := 232) rfl), rfl⟩
theorem kq_4_233 : Cond.code yX7_dropRule prog_9_method_22_code 2 (some .int) ∈ kAL := List.mem_filter.mpr ⟨kin_t4 _ (List.mem_of_getElem? (i := 233) rfl), rfl⟩
theorem kq_4_234 : Cond.methodLink "ParserparkModel" 147 yX7_isRule ∈ kAL := List.mem_filter.mpr ⟨kin_t4 _ (List.mem_of_getElem? (i := 234) rfl), rfl⟩
theorem kq_4_235 : Cond.privateMethod yX7_isRule ∈ lw_tbl := kin_t4 _ (List.mem_of_getElem? (i := 235) rfl)
theorem kq_4_236 : Cond.instanceMethod yX7_isRule ∈ kAL := List.mem_filter.mpr ⟨kin_t4 _ (List.mem_of_getElem? (i := 236) rfl), rfl⟩
theorem kq_4_237 : Cond.code yX7_isRule prog_9_method_21_code 2 (some .boolean) ∈ kAL := List.mem_filter.mpr ⟨kin_t4 _ (List.mem_of_getElem? (i := 237) rfl), rfl⟩
theorem kq_4_238 : Cond.methodLink "ParserparkLaw" 125 yX7_setRank ∈ kAL := List.mem_filter.mpr ⟨kin_t4 _ (List.mem_of_getElem? (i := 238) rfl), rfl⟩
theorem kq_4_239 : Cond.instanceMethod yX7_setRank ∈ kAL := List.mem_filter.mpr ⟨kin_t4 _ (List.mem_of_getElem? (i := 239) rfl), rfl⟩
theorem kq_5_0 : Cond.selects "ParserparkModel" yX7_setRank yX7_setRank ∈ kAL := List.mem_filter.mpr ⟨kin_t5 _ (List.mem_of_getElem? (i := 0) rfl), rfl⟩
theorem kq_5_1 : Cond.code yX7_setRank prog_9_method_23_code 4 (some .int) ∈ kAL := List.mem_filter.mpr ⟨kin_t5 _ (List.mem_of_getElem? (i := 1) rfl), rfl⟩
theorem kq_5_2 : Cond.constantLong "ParserparkModel" 150 (9 : Int64) ∈ kAL := List.mem_filter.mpr ⟨kin_t5 _ (List.mem_of_getElem? (i := 2) rfl), rfl⟩
theorem kq_5_3 : Cond.methodLink "ParserparkLaw" 129 yX7_setStyle ∈ kAL := List.mem_filter.mpr ⟨kin_t5 _ (List.mem_of_getElem? (i := 3) rfl), rfl⟩
theorem kq_5_4 : Cond.instanceMethod yX7_setStyle ∈ kAL := List.mem_filter.mpr ⟨kin_t5 _ (List.mem_of_getElem? (i := 4) rfl), rfl⟩
theorem kq_5_5 : Cond.selects "ParserparkModel" yX7_setStyle yX7_setStyle ∈ kAL := List.mem_filter.mpr ⟨kin_t5 _ (List.mem_of_getElem? (i := 5) rfl), rfl⟩
theorem kq_5_6 : Cond.code yX7_setStyle prog_9_method_24_code 5 (some .int) ∈ kAL := List.mem_filter.mpr ⟨kin_t5 _ (List.mem_of_getElem? (i := 6) rfl), rfl⟩
theorem kq_5_7 : Cond.constantLong "ParserparkModel" 152 (3 : Int64) ∈ kAL := List.mem_filter.mpr ⟨kin_t5 _ (List.mem_of_getElem? (i := 7) rfl), rfl⟩
theorem kq_5_8 : Cond.methodLink "ParserparkLaw" 133 yX7_rules ∈ kAL := List.mem_filter.mpr ⟨kin_t5 _ (List.mem_of_getElem? (i := 8) rfl), rfl⟩
theorem kq_5_9 : Cond.instanceMethod yX7_rules ∈ kAL := List.mem_filter.mpr ⟨kin_t5 _ (List.mem_of_getElem? (i := 9) rfl), rfl⟩
theorem kq_5_10 : Cond.selects "ParserparkModel" yX7_rules yX7_rules ∈ kAL := List.mem_filter.mpr ⟨kin_t5 _ (List.mem_of_getElem? (i := 10) rfl), rfl⟩
theorem kq_5_11 : Cond.code yX7_rules prog_9_method_25_code 3 (some .int) ∈ kAL := List.mem_filter.mpr ⟨kin_t5 _ (List.mem_of_getElem? (i := 11) rfl), rfl⟩
theorem kq_5_12 : Cond.methodLink "ParserparkLaw" 136 yX7_addText ∈ kAL := List.mem_filter.mpr ⟨kin_t5 _ (List.mem_of_getElem? (i := 12) rfl), rfl⟩
theorem kq_5_13 : Cond.instanceMethod yX7_addText ∈ kAL := List.mem_filter.mpr ⟨kin_t5 _ (List.mem_of_getElem? (i := 13) rfl), rfl⟩
theorem kq_5_14 : Cond.selects "ParserparkModel" yX7_addText yX7_addText ∈ kAL := List.mem_filter.mpr ⟨kin_t5 _ (List.mem_of_getElem? (i := 14) rfl), rfl⟩
theorem kq_5_15 : Cond.code yX7_addText prog_9_method_26_code 2 (some .int) ∈ kAL := List.mem_filter.mpr ⟨kin_t5 _ (List.mem_of_getElem? (i := 15) rfl), rfl⟩
theorem kq_5_16 : Cond.methodLink "ParserparkLaw" 139 yX7_addLetter ∈ kAL := List.mem_filter.mpr ⟨kin_t5 _ (List.mem_of_getElem? (i := 16) rfl), rfl⟩
theorem kq_5_17 : Cond.instanceMethod yX7_addLetter ∈ kAL := List.mem_filter.mpr ⟨kin_t5 _ (List.mem_of_getElem? (i := 17) rfl), rfl⟩
theorem kq_5_18 : Cond.selects "ParserparkModel" yX7_addLetter yX7_addLetter ∈ kAL := List.mem_filter.mpr ⟨kin_t5 _ (List.mem_of_getElem? (i := 18) rfl), rfl⟩
theorem kq_5_19 : Cond.code yX7_addLetter prog_9_method_28_code 3 (some .int) ∈ kAL := List.mem_filter.mpr ⟨kin_t5 _ (List.mem_of_getElem? (i := 19) rfl), rfl⟩
theorem kq_5_20 : Cond.methodLink "ParserparkModel" 154 yX7_isText ∈ kAL := List.mem_filter.mpr ⟨kin_t5 _ (List.mem_of_getElem? (i := 20) rfl), rfl⟩
theorem kq_5_21 : Cond.privateMethod yX7_isText ∈ lw_tbl := kin_t5 _ (List.mem_of_getElem? (i := 21) rfl)
theorem kq_5_22 : Cond.instanceMethod yX7_isText ∈ kAL := List.mem_filter.mpr ⟨kin_t5 _ (List.mem_of_getElem? (i := 22) rfl), rfl⟩
theorem kq_5_23 : Cond.code yX7_isText prog_9_method_27_code 2 (some .boolean) ∈ kAL := List.mem_filter.mpr ⟨kin_t5 _ (List.mem_of_getElem? (i := 23) rfl), rfl⟩
theorem kq_5_24 : Cond.methodLink "ParserparkModel" 131 yX7_laysText ∈ kAL := List.mem_filter.mpr ⟨kin_t5 _ (List.mem_of_getElem? (i := 24) rfl), rfl⟩
theorem kq_5_25 : Cond.privateMethod yX7_laysText ∈ lw_tbl := kin_t5 _ (List.mem_of_getElem? (i := 25) rfl)
theorem kq_5_26 : Cond.instanceMethod yX7_laysText ∈ kAL := List.mem_filter.mpr ⟨kin_t5 _ (List.mem_of_getElem? (i := 26) rfl), rfl⟩
theorem kq_5_27 : Cond.code yX7_laysText prog_9_method_12_code 3 (some .int) ∈ kAL := List.mem_filter.mpr ⟨kin_t5 _ (List.mem_of_getElem? (i := 27) rfl), rfl⟩
theorem kq_5_28 : Cond.methodLink "ParserparkModel" 102 yX7_lays ∈ kAL := List.mem_filter.mpr ⟨kin_t5 _ (List.mem_of_getElem? (i := 28) rfl), rfl⟩
theorem kq_5_29 : Cond.privateMethod yX7_lays ∈ lw_tbl := kin_t5 _ (List.mem_of_getElem? (i := 29) rfl)
theorem kq_5_30 : Cond.instanceMethod yX7_lays ∈ kAL := List.mem_filter.mpr ⟨kin_t5 _ (List.mem_of_getElem? (i := 30) rfl), rfl⟩
theorem kq_5_31 : Cond.code yX7_lays prog_9_method_11_code 7 (none : Option Jvm.ClassFile.FieldType) ∈ kAL := List.mem_filter.mpr ⟨kin_t5 _ (List.mem_of_getElem? (i := 31) rfl), rfl⟩
theorem kq_5_32 : Cond.methodLink "ParserparkModel" 99 yX7_ways ∈ kAL := List.mem_filter.mpr ⟨kin_t5 _ (List.mem_of_getElem? (i := 32) rfl), rfl⟩
theorem kq_5_33 : Cond.privateMethod yX7_ways ∈ lw_tbl := kin_t5 _ (List.mem_of_getElem? (i := 33) rfl)
theorem kq_5_34 : Cond.instanceMethod yX7_ways ∈ kAL := List.mem_filter.mpr ⟨kin_t5 _ (List.mem_of_getElem? (i := 34) rfl), rfl⟩
theorem kq_5_35 : Cond.code yX7_ways prog_9_method_10_code 7 (some .int) ∈ kAL := List.mem_filter.mpr ⟨kin_t5 _ (List.mem_of_getElem? (i := 35) rfl), rfl⟩
theorem kq_5_36 : Cond.methodLink "ParserparkModel" 81 yX7_part ∈ kAL := List.mem_filter.mpr ⟨kin_t5 _ (List.mem_of_getElem? (i := 36) rfl), rfl⟩
theorem kq_5_37 : Cond.privateMethod yX7_part ∈ lw_tbl := kin_t5 _ (List.mem_of_getElem? (i := 37) rfl)
theorem kq_5_38 : Cond.instanceMethod yX7_part ∈ kAL := List.mem_filter.mpr ⟨kin_t5 _ (List.mem_of_getElem? (i := 38) rfl), rfl⟩
theorem kq_5_39 : Cond.code yX7_part prog_9_method_8_code 4 (some .int) ∈ kAL := List.mem_filter.mpr ⟨kin_t5 _ (List.mem_of_getElem? (i := 39) rfl), rfl⟩
theorem kq_5_40 : Cond.methodLink "ParserparkModel" 89 yX7_twoParts ∈ kAL := List.mem_filter.mpr ⟨kin_t5 _ (List.mem_of_getElem? (i := 40) rfl), rfl⟩
theorem kq_5_41 : Cond.privateMethod yX7_twoParts ∈ lw_tbl := kin_t5 _ (List.mem_of_getElem? (i := 41) rfl)
theorem kq_5_42 : Cond.instanceMethod yX7_twoParts ∈ kAL := List.mem_filter.mpr ⟨kin_t5 _ (List.mem_of_getElem? (i := 42) rfl), rfl⟩
theorem kq_5_43 : Cond.code yX7_twoParts prog_9_method_9_code 7 (some .int) ∈ kAL := List.mem_filter.mpr ⟨kin_t5 _ (List.mem_of_getElem? (i := 43) rfl), rfl⟩
theorem kq_5_44 : Cond.methodLink "ParserparkModel" 85 yX7_held ∈ kAL := List.mem_filter.mpr ⟨kin_t5 _ (List.mem_of_getElem? (i := 44) rfl), rfl⟩
theorem kq_5_45 : Cond.static yX7_held ∈ kAL := List.mem_filter.mpr ⟨kin_t5 _ (List.mem_of_getElem? (i := 45) rfl), rfl⟩
theorem kq_5_46 : Cond.code yX7_held prog_9_method_7_code 1 (some .int) ∈ kAL := List.mem_filter.mpr ⟨kin_t5 _ (List.mem_of_getElem? (i := 46) rfl), rfl⟩
theorem kq_5_47 : Cond.methodLink "ParserparkLaw" 142 yX7_replace ∈ kAL := List.mem_filter.mpr ⟨kin_t5 _ (List.mem_of_getElem? (i := 47) rfl), rfl⟩
theorem kq_5_48 : Cond.instanceMethod yX7_replace ∈ kAL := List.mem_filter.mpr ⟨kin_t5 _ (List.mem_of_getElem? (i := 48) rfl), rfl⟩
theorem kq_5_49 : Cond.selects "ParserparkModel" yX7_replace yX7_replace ∈ kAL := List.mem_filter.mpr ⟨kin_t5 _ (List.mem_of_getElem? (i := 49) rfl), rfl⟩
theorem kq_5_50 : Cond.code yX7_replace prog_9_method_30_code 4 (some .int) ∈ kAL := List.mem_filter.mpr ⟨kin_t5 _ (List.mem_of_getElem? (i := 50) rfl), rfl⟩
theorem kq_5_51 : Cond.methodLink "ParserparkModel" 157 yX7_isPlace ∈ kAL := List.mem_filter.mpr ⟨kin_t5 _ (List.mem_of_getElem? (i := 51) rfl), rfl⟩
theorem kq_5_52 : Cond.privateMethod yX7_isPlace ∈ lw_tbl := kin_t5 _ (List.mem_of_getElem? (i := 52) rfl)
theorem kq_5_53 : Cond.instanceMethod yX7_isPlace ∈ kAL := List.mem_filter.mpr ⟨kin_t5 _ (List.mem_of_getElem? (i := 53) rfl), rfl⟩
theorem kq_5_54 : Cond.code yX7_isPlace prog_9_method_29_code 3 (some .boolean) ∈ kAL := List.mem_filter.mpr ⟨kin_t5 _ (List.mem_of_getElem? (i := 54) rfl), rfl⟩
theorem kq_5_55 : Cond.methodLink "ParserparkLaw" 145 yX7_length ∈ kAL := List.mem_filter.mpr ⟨kin_t5 _ (List.mem_of_getElem? (i := 55) rfl), rfl⟩
theorem kq_5_56 : Cond.instanceMethod yX7_length ∈ kAL := List.mem_filter.mpr ⟨kin_t5 _ (List.mem_of_getElem? (i := 56) rfl), rfl⟩
theorem kq_5_57 : Cond.selects "ParserparkModel" yX7_length yX7_length ∈ kAL := List.mem_filter.mpr ⟨kin_t5 _ (List.mem_of_getElem? (i := 57) rfl), rfl⟩
theorem kq_5_58 : Cond.code yX7_length prog_9_method_32_code 2 (some .int) ∈ kAL := List.mem_filter.mpr ⟨kin_t5 _ (List.mem_of_getElem? (i := 58) rfl), rfl⟩
theorem kq_5_59 : Cond.methodLink "ParserparkModel" 161 yX7_asks ∈ kAL := List.mem_filter.mpr ⟨kin_t5 _ (List.mem_of_getElem? (i := 59) rfl), rfl⟩
theorem kq_5_60 : Cond.privateMethod yX7_asks ∈ lw_tbl := kin_t5 _ (List.mem_of_getElem? (i := 60) rfl)
theorem kq_5_61 : Cond.instanceMethod yX7_asks ∈ kAL := List.mem_filter.mpr ⟨kin_t5 _ (List.mem_of_getElem? (i := 61) rfl), rfl⟩
theorem kq_5_62 : Cond.code yX7_asks prog_9_method_31_code 2 (some .boolean) ∈ kAL := List.mem_filter.mpr ⟨kin_t5 _ (List.mem_of_getElem? (i := 62) rfl), rfl⟩
theorem kq_5_63 : Cond.methodLink "ParserparkLaw" 148 yX7_letterAt ∈ kAL := List.mem_filter.mpr ⟨kin_t5 _ (List.mem_of_getElem? (i := 63) rfl), rfl⟩
theorem kq_5_64 : Cond.instanceMethod yX7_letterAt ∈ kAL := List.mem_filter.mpr ⟨kin_t5 _ (List.mem_of_getElem? (i := 64) rfl), rfl⟩
theorem kq_5_65 : Cond.selects "ParserparkModel" yX7_letterAt yX7_letterAt ∈ kAL := List.mem_filter.mpr ⟨kin_t5 _ (List.mem_of_getElem? (i := 65) rfl), rfl⟩
theorem kq_5_66 : Cond.code yX7_letterAt prog_9_method_33_code 3 (some .int) ∈ kAL := List.mem_filter.mpr ⟨kin_t5 _ (List.mem_of_getElem? (i := 66) rfl), rfl⟩
theorem kq_5_67 : Cond.methodLink "ParserparkLaw" 151 yX7_trees ∈ kAL := List.mem_filter.mpr ⟨kin_t5 _ (List.mem_of_getElem? (i := 67) rfl), rfl⟩
theorem kq_5_68 : Cond.instanceMethod yX7_trees ∈ kAL := List.mem_filter.mpr ⟨kin_t5 _ (List.mem_of_getElem? (i := 68) rfl), rfl⟩
theorem kq_5_69 : Cond.selects "ParserparkModel" yX7_trees yX7_trees ∈ kAL := List.mem_filter.mpr ⟨kin_t5 _ (List.mem_of_getElem? (i := 69) rfl), rfl⟩
theorem kq_5_70 : Cond.code yX7_trees prog_9_method_34_code 2 (some .int) ∈ kAL := List.mem_filter.mpr ⟨kin_t5 _ (List.mem_of_getElem? (i := 70) rfl), rfl⟩
theorem kq_5_71 : Cond.methodLink "ParserparkLaw" 154 yX7_treesByTrying ∈ kAL := List.mem_filter.mpr ⟨kin_t5 _ (List.mem_of_getElem? (i := 71) rfl), rfl⟩
theorem kq_5_72 : Cond.instanceMethod yX7_treesByTrying ∈ kAL := List.mem_filter.mpr ⟨kin_t5 _ (List.mem_of_getElem? (i := 72) rfl), rfl⟩
theorem kq_5_73 : Cond.selects "ParserparkModel" yX7_treesByTrying yX7_treesByTrying ∈ kAL := List.mem_filter.mpr ⟨kin_t5 _ (List.mem_of_getElem? (i := 73) rfl), rfl⟩
theorem kq_5_74 : Cond.code yX7_treesByTrying prog_9_method_35_code 2 (some .int) ∈ kAL := List.mem_filter.mpr ⟨kin_t5 _ (List.mem_of_getElem? (i := 74) rfl), rfl⟩
theorem kq_5_75 : Cond.methodLink "ParserparkLaw" 157 yX7_treesOver ∈ kAL := List.mem_filter.mpr ⟨kin_t5 _ (List.mem_of_getElem? (i := 75) rfl), rfl⟩
theorem kq_5_76 : Cond.instanceMethod yX7_treesOver ∈ kAL := List.mem_filter.mpr ⟨kin_t5 _ (List.mem_of_getElem? (i := 76) rfl), rfl⟩
theorem kq_5_77 : Cond.selects "ParserparkModel" yX7_treesOver yX7_treesOver ∈ kAL := List.mem_filter.mpr ⟨kin_t5 _ (List.mem_of_getElem? (i := 77) rfl), rfl⟩
theorem kq_5_78 : Cond.code yX7_treesOver prog_9_method_36_code 6 (some .int) ∈ kAL := List.mem_filter.mpr ⟨kin_t5 _ (List.mem_of_getElem? (i := 78) rfl), rfl⟩
theorem kq_5_79 : Cond.methodLink "ParserparkLaw" 160 yX7_size ∈ kAL := List.mem_filter.mpr ⟨kin_t5 _ (List.mem_of_getElem? (i := 79) rfl), rfl⟩
theorem kq_5_80 : Cond.instanceMethod yX7_size ∈ kAL := List.mem_filter.mpr ⟨kin_t5 _ (List.mem_of_getElem? (i := 80) rfl), rfl⟩
theorem kq_5_81 : Cond.selects "ParserparkModel" yX7_size yX7_size ∈ kAL := List.mem_filter.mpr ⟨kin_t5 _ (List.mem_of_getElem? (i := 81) rfl), rfl⟩
theorem kq_5_82 : Cond.code yX7_size prog_9_method_37_code 2 (some .int) ∈ kAL := List.mem_filter.mpr ⟨kin_t5 _ (List.mem_of_getElem? (i := 82) rfl), rfl⟩
theorem kq_5_83 : Cond.methodLink "ParserparkModel" 164 yX7_walksText ∈ kAL := List.mem_filter.mpr ⟨kin_t5 _ (List.mem_of_getElem? (i := 83) rfl), rfl⟩
theorem kq_5_84 : Cond.privateMethod yX7_walksText ∈ lw_tbl := kin_t5 _ (List.mem_of_getElem? (i := 84) rfl)
theorem kq_5_85 : Cond.instanceMethod yX7_walksText ∈ kAL := List.mem_filter.mpr ⟨kin_t5 _ (List.mem_of_getElem? (i := 85) rfl), rfl⟩
theorem kq_5_86 : Cond.code yX7_walksText prog_9_method_18_code 4 (some .int) ∈ kAL := List.mem_filter.mpr ⟨kin_t5 _ (List.mem_of_getElem? (i := 86) rfl), rfl⟩
theorem kq_5_87 : Cond.methodLink "ParserparkModel" 105 yX7_walks ∈ kAL := List.mem_filter.mpr ⟨kin_t5 _ (List.mem_of_getElem? (i := 87) rfl), rfl⟩
theorem kq_5_88 : Cond.privateMethod yX7_walks ∈ lw_tbl := kin_t5 _ (List.mem_of_getElem? (i := 88) rfl)
theorem kq_5_89 : Cond.instanceMethod yX7_walks ∈ kAL := List.mem_filter.mpr ⟨kin_t5 _ (List.mem_of_getElem? (i := 89) rfl), rfl⟩
theorem kq_5_90 : Cond.code yX7_walks prog_9_method_17_code 11 (none : Option Jvm.ClassFile.FieldType) ∈ kAL := List.mem_filter.mpr ⟨kin_t5 _ (List.mem_of_getElem? (i := 90) rfl), rfl⟩
theorem kq_5_91 : Cond.methodLink "ParserparkModel" 112 yX7_chosen ∈ kAL := List.mem_filter.mpr ⟨kin_t5 _ (List.mem_of_getElem? (i := 91) rfl), rfl⟩
theorem kq_5_92 : Cond.privateMethod yX7_chosen ∈ lw_tbl := kin_t5 _ (List.mem_of_getElem? (i := 92) rfl)
theorem kq_5_93 : Cond.instanceMethod yX7_chosen ∈ kAL := List.mem_filter.mpr ⟨kin_t5 _ (List.mem_of_getElem? (i := 93) rfl), rfl⟩
theorem kq_5_94 : Cond.code yX7_chosen prog_9_method_13_code 7 (some .int) ∈ kAL := List.mem_filter.mpr ⟨kin_t5 _ (List.mem_of_getElem? (i := 94) rfl), rfl⟩
theorem kq_5_95 : Cond.methodLink "ParserparkModel" 121 yX7_sees ∈ kAL := List.mem_filter.mpr ⟨kin_t5 _ (List.mem_of_getElem? (i := 95) rfl), rfl⟩
theorem kq_5_96 : Cond.privateMethod yX7_sees ∈ lw_tbl := kin_t5 _ (List.mem_of_getElem? (i := 96) rfl)
theorem kq_5_97 : Cond.instanceMethod yX7_sees ∈ kAL := List.mem_filter.mpr ⟨kin_t5 _ (List.mem_of_getElem? (i := 97) rfl), rfl⟩
theorem kq_5_98 : Cond.code yX7_sees prog_9_method_14_code 6 (none : Option Jvm.ClassFile.FieldType) ∈ kAL := List.mem_filter.mpr ⟨kin_t5 _ (List.mem_of_getElem? (i := 98) rfl), rfl⟩
theorem kq_5_99 : Cond.methodLink "ParserparkModel" 124 yX7_cut ∈ kAL := List.mem_filter.mpr ⟨kin_t5 _ (List.mem_of_getElem? (i := 99) rfl), rfl⟩
theorem kq_5_100 : Cond.privateMethod yX7_cut ∈ lw_tbl := kin_t5 _ (List.mem_of_getElem? (i := 100) rfl)
theorem kq_5_101 : Cond.instanceMethod yX7_cut ∈ kAL := List.mem_filter.mpr ⟨kin_t5 _ (List.mem_of_getElem? (i := 101) rfl), rfl⟩
theorem kq_5_102 : Cond.code yX7_cut prog_9_method_16_code 6 (some .int) ∈ kAL := List.mem_filter.mpr ⟨kin_t5 _ (List.mem_of_getElem? (i := 102) rfl), rfl⟩
theorem kq_5_103 : Cond.methodLink "ParserparkModel" 127 yX7_blanks ∈ kAL := List.mem_filter.mpr ⟨kin_t5 _ (List.mem_of_getElem? (i := 103) rfl), rfl⟩
theorem kq_5_104 : Cond.privateMethod yX7_blanks ∈ lw_tbl := kin_t5 _ (List.mem_of_getElem? (i := 104) rfl)
theorem kq_5_105 : Cond.instanceMethod yX7_blanks ∈ kAL := List.mem_filter.mpr ⟨kin_t5 _ (List.mem_of_getElem? (i := 105) rfl), rfl⟩
theorem kq_5_106 : Cond.code yX7_blanks prog_9_method_15_code 3 (none : Option Jvm.ClassFile.FieldType) ∈ kAL := List.mem_filter.mpr ⟨kin_t5 _ (List.mem_of_getElem? (i := 106) rfl), rfl⟩
theorem kq_5_107 : Cond.methodLink "ParserparkLaw" 163 yX7_ruleAt ∈ kAL := List.mem_filter.mpr ⟨kin_t5 _ (List.mem_of_getElem? (i := 107) rfl), rfl⟩
theorem kq_5_108 : Cond.instanceMethod yX7_ruleAt ∈ kAL := List.mem_filter.mpr ⟨kin_t5 _ (List.mem_of_getElem? (i := 108) rfl), rfl⟩
theorem kq_5_109 : Cond.selects "ParserparkModel" yX7_ruleAt yX7_ruleAt ∈ kAL := List.mem_filter.mpr ⟨kin_t5 _ (List.mem_of_getElem? (i := 109) rfl), rfl⟩
theorem kq_5_110 : Cond.code yX7_ruleAt prog_9_method_38_code 3 (some .int) ∈ kAL := List.mem_filter.mpr ⟨kin_t5 _ (List.mem_of_getElem? (i := 110) rfl), rfl⟩
theorem kq_5_111 : Cond.methodLink "ParserparkLaw" 166 yX7_depth ∈ kAL := List.mem_filter.mpr ⟨kin_t5 _ (List.mem_of_getElem? (i := 111) rfl), rfl⟩
theorem kq_5_112 : Cond.instanceMethod yX7_depth ∈ kAL := List.mem_filter.mpr ⟨kin_t5 _ (List.mem_of_getElem? (i := 112) rfl), rfl⟩
theorem kq_5_113 : Cond.selects "ParserparkModel" yX7_depth yX7_depth ∈ kAL := List.mem_filter.mpr ⟨kin_t5 _ (List.mem_of_getElem? (i := 113) rfl), rfl⟩
theorem kq_5_114 : Cond.code yX7_depth prog_9_method_39_code 2 (some .int) ∈ kAL := List.mem_filter.mpr ⟨kin_t5 _ (List.mem_of_getElem? (i := 114) rfl), rfl⟩
theorem kq_5_115 : Cond.methodLink "ParserparkLaw" 169 yX7_colourAt ∈ kAL := List.mem_filter.mpr ⟨kin_t5 _ (List.mem_of_getElem? (i := 115) rfl), rfl⟩
theorem kq_5_116 : Cond.instanceMethod yX7_colourAt ∈ kAL := List.mem_filter.mpr ⟨kin_t5 _ (List.mem_of_getElem? (i := 116) rfl), rfl⟩
theorem kq_5_117 : Cond.selects "ParserparkModel" yX7_colourAt yX7_colourAt ∈ kAL := List.mem_filter.mpr ⟨kin_t5 _ (List.mem_of_getElem? (i := 117) rfl), rfl⟩
theorem kq_5_118 : Cond.code yX7_colourAt prog_9_method_40_code 3 (some .int) ∈ kAL := List.mem_filter.mpr ⟨kin_t5 _ (List.mem_of_getElem? (i := 118) rfl), rfl⟩
theorem kq_5_119 : Cond.methodLink "ParserparkLaw" 172 yX7_formatted ∈ kAL := List.mem_filter.mpr ⟨kin_t5 _ (List.mem_of_getElem? (i := 119) rfl), rfl⟩
theorem kq_5_120 : Cond.instanceMethod yX7_formatted ∈ kAL := List.mem_filter.mpr ⟨kin_t5 _ (List.mem_of_getElem? (i := 120) rfl), rfl⟩
theorem kq_5_121 : Cond.selects "ParserparkModel" yX7_formatted yX7_formatted ∈ kAL := List.mem_filter.mpr ⟨kin_t5 _ (List.mem_of_getElem? (i := 121) rfl), rfl⟩
theorem kq_5_122 : Cond.code yX7_formatted prog_9_method_41_code 2 (some .int) ∈ kAL := List.mem_filter.mpr ⟨kin_t5 _ (List.mem_of_getElem? (i := 122) rfl), rfl⟩
theorem kq_5_123 : Cond.methodLink "ParserparkLaw" 175 yX7_formattedAt ∈ kAL := List.mem_filter.mpr ⟨kin_t5 _ (List.mem_of_getElem? (i := 123) rfl), rfl⟩
theorem kq_5_124 : Cond.instanceMethod yX7_formattedAt ∈ kAL := List.mem_filter.mpr ⟨kin_t5 _ (List.mem_of_getElem? (i := 124) rfl), rfl⟩
theorem kq_5_125 : Cond.selects "ParserparkModel" yX7_formattedAt yX7_formattedAt ∈ kAL := List.mem_filter.mpr ⟨kin_t5 _ (List.mem_of_getElem? (i := 125) rfl), rfl⟩
theorem kq_5_126 : Cond.code yX7_formattedAt prog_9_method_42_code 3 (some .char) ∈ kAL := List.mem_filter.mpr ⟨kin_t5 _ (List.mem_of_getElem? (i := 126) rfl), rfl⟩
theorem kq_5_127 : Cond.methodLink "ParserparkLaw" 178 yX7_accept ∈ kAL := List.mem_filter.mpr ⟨kin_t5 _ (List.mem_of_getElem? (i := 127) rfl), rfl⟩
theorem kq_5_128 : Cond.instanceMethod yX7_accept ∈ kAL := List.mem_filter.mpr ⟨kin_t5 _ (List.mem_of_getElem? (i := 128) rfl), rfl⟩
theorem kq_5_129 : Cond.selects "ParserparkModel" yX7_accept yX7_accept ∈ kAL := List.mem_filter.mpr ⟨kin_t5 _ (List.mem_of_getElem? (i := 129) rfl), rfl⟩
theorem kq_5_130 : Cond.code yX7_accept prog_9_method_43_code 3 (some .int) ∈ kAL := List.mem_filter.mpr ⟨kin_t5 _ (List.mem_of_getElem? (i := 130) rfl), rfl⟩
theorem kq_5_131 : Cond.methodLink "ParserparkLaw" 181 yX7_fault ∈ kAL := List.mem_filter.mpr ⟨kin_t5 _ (List.mem_of_getElem? (i := 131) rfl), rfl⟩
theorem kq_5_132 : Cond.instanceMethod yX7_fault ∈ kAL := List.mem_filter.mpr ⟨kin_t5 _ (List.mem_of_getElem? (i := 132) rfl), rfl⟩
theorem kq_5_133 : Cond.selects "ParserparkModel" yX7_fault yX7_fault ∈ kAL := List.mem_filter.mpr ⟨kin_t5 _ (List.mem_of_getElem? (i := 133) rfl), rfl⟩
theorem kq_5_134 : Cond.code yX7_fault prog_9_method_45_code 2 (some .char) ∈ kAL := List.mem_filter.mpr ⟨kin_t5 _ (List.mem_of_getElem? (i := 134) rfl), rfl⟩
theorem kq_5_135 : Cond.methodLink "ParserparkModel" 167 yX7_faultOf ∈ kAL := List.mem_filter.mpr ⟨kin_t5 _ (List.mem_of_getElem? (i := 135) rfl), rfl⟩
theorem kq_5_136 : Cond.privateMethod yX7_faultOf ∈ lw_tbl := kin_t5 _ (List.mem_of_getElem? (i := 136) rfl)
theorem kq_5_137 : Cond.instanceMethod yX7_faultOf ∈ kAL := List.mem_filter.mpr ⟨kin_t5 _ (List.mem_of_getElem? (i := 137) rfl), rfl⟩
theorem kq_5_138 : Cond.code yX7_faultOf prog_9_method_44_code 5 (some .char) ∈ kAL := List.mem_filter.mpr ⟨kin_t5 _ (List.mem_of_getElem? (i := 138) rfl), rfl⟩
theorem kq_5_139 : Cond.methodLink "ParserparkLaw" 185 yX7_release ∈ kAL := List.mem_filter.mpr ⟨kin_t5 _ (List.mem_of_getElem? (i := 139) rfl), rfl⟩
theorem kq_5_140 : Cond.instanceMethod yX7_release ∈ kAL := List.mem_filter.mpr ⟨kin_t5 _ (List.mem_of_getElem? (i := 140) rfl), rfl⟩
theorem kq_5_141 : Cond.selects "ParserparkModel" yX7_release yX7_release ∈ kAL := List.mem_filter.mpr ⟨kin_t5 _ (List.mem_of_getElem? (i := 141) rfl), rfl⟩
theorem kq_5_142 : Cond.code yX7_release prog_9_method_47_code 1 (some .int) ∈ kAL := List.mem_filter.mpr ⟨kin_t5 _ (List.mem_of_getElem? (i := 142) rfl), rfl⟩
theorem kq_5_143 : Cond.methodLink "ParserparkModel" 171 yX7_clean ∈ kAL := List.mem_filter.mpr ⟨kin_t5 _ (List.mem_of_getElem? (i := 143) rfl), rfl⟩
theorem kq_5_144 : Cond.privateMethod yX7_clean ∈ lw_tbl := kin_t5 _ (List.mem_of_getElem? (i := 144) rfl)
theorem kq_5_145 : Cond.instanceMethod yX7_clean ∈ kAL := List.mem_filter.mpr ⟨kin_t5 _ (List.mem_of_getElem? (i := 145) rfl), rfl⟩
theorem kq_5_146 : Cond.code yX7_clean prog_9_method_46_code 3 (some .int) ∈ kAL := List.mem_filter.mpr ⟨kin_t5 _ (List.mem_of_getElem? (i := 146) rfl), rfl⟩
theorem kq_5_147 : Cond.methodLink "ParserparkLaw" 188 yX7_ambiguous ∈ kAL := List.mem_filter.mpr ⟨kin_t5 _ (List.mem_of_getElem? (i := 147) rfl), rfl⟩
theorem kq_5_148 : Cond.instanceMethod yX7_ambiguous ∈ kAL := List.mem_filter.mpr ⟨kin_t5 _ (List.mem_of_getElem? (i := 148) rfl), rfl⟩
theorem kq_5_149 : Cond.selects "ParserparkModel" yX7_ambiguous yX7_ambiguous ∈ kAL := List.mem_filter.mpr ⟨kin_t5 _ (List.mem_of_getElem? (i := 149) rfl), rfl⟩
theorem kq_5_150 : Cond.code yX7_ambiguous prog_9_method_50_code 3 (some .int) ∈ kAL := List.mem_filter.mpr ⟨kin_t5 _ (List.mem_of_getElem? (i := 150) rfl), rfl⟩
theorem kq_5_151 : Cond.methodLink "ParserparkModel" 183 yX7_asksRow ∈ kAL := List.mem_filter.mpr ⟨kin_t5 _ (List.mem_of_getElem? (i := 151) rfl), rfl⟩
theorem kq_5_152 : Cond.privateMethod yX7_asksRow ∈ lw_tbl := kin_t5 _ (List.mem_of_getElem? (i := 152) rfl)
theorem kq_5_153 : Cond.instanceMethod yX7_asksRow ∈ kAL := List.mem_filter.mpr ⟨kin_t5 _ (List.mem_of_getElem? (i := 153) rfl), rfl⟩
theorem kq_5_154 : Cond.code yX7_asksRow prog_9_method_49_code 4 (some .boolean) ∈ kAL := List.mem_filter.mpr ⟨kin_t5 _ (List.mem_of_getElem? (i := 154) rfl), rfl⟩
theorem kq_5_155 : Cond.constantLong "ParserparkModel" 178 (4 : Int64) ∈ kAL := List.mem_filter.mpr ⟨kin_t5 _ (List.mem_of_getElem? (i := 155) rfl), rfl⟩
theorem kq_5_156 : Cond.methodLink "ParserparkModel" 180 yX7_finds ∈ kAL := List.mem_filter.mpr ⟨kin_t5 _ (List.mem_of_getElem? (i := 156) rfl), rfl⟩
theorem kq_5_157 : Cond.privateMethod yX7_finds ∈ lw_tbl := kin_t5 _ (List.mem_of_getElem? (i := 157) rfl)
theorem kq_5_158 : Cond.instanceMethod yX7_finds ∈ kAL := List.mem_filter.mpr ⟨kin_t5 _ (List.mem_of_getElem? (i := 158) rfl), rfl⟩
theorem kq_5_159 : Cond.code yX7_finds prog_9_method_48_code 7 (some .boolean) ∈ kAL := List.mem_filter.mpr ⟨kin_t5 _ (List.mem_of_getElem? (i := 159) rfl), rfl⟩
theorem kq_5_160 : Cond.methodLink "ParserparkLaw" 191 yX7_ambiguousAt ∈ kAL := List.mem_filter.mpr ⟨kin_t5 _ (List.mem_of_getElem? (i := 160) rfl), rfl⟩
theorem kq_5_161 : Cond.instanceMethod yX7_ambiguousAt ∈ kAL := List.mem_filter.mpr ⟨kin_t5 _ (List.mem_of_getElem? (i := 161) rfl), rfl⟩
theorem kq_5_162 : Cond.selects "ParserparkModel" yX7_ambiguousAt yX7_ambiguousAt ∈ kAL := List.mem_filter.mpr ⟨kin_t5 _ (List.mem_of_getElem? (i := 162) rfl), rfl⟩
theorem kq_5_163 : Cond.code yX7_ambiguousAt prog_9_method_51_code 4 (some .int) ∈ kAL := List.mem_filter.mpr ⟨kin_t5 _ (List.mem_of_getElem? (i := 163) rfl), rfl⟩
theorem kq_5_164 : Cond.methodLink "ParserparkLaw" 196 yX7_work ∈ kAL := List.mem_filter.mpr ⟨kin_t5 _ (List.mem_of_getElem? (i := 164) rfl), rfl⟩
theorem kq_5_165 : Cond.instanceMethod yX7_work ∈ kAL := List.mem_filter.mpr ⟨kin_t5 _ (List.mem_of_getElem? (i := 165) rfl), rfl⟩
theorem kq_5_166 : Cond.selects "ParserparkModel" yX7_work yX7_work ∈ kAL := List.mem_filter.mpr ⟨kin_t5 _ (List.mem_of_getElem? (i := 166) rfl), rfl⟩
theorem kq_5_167 : Cond.code yX7_work prog_9_method_52_code 1 (some .long) ∈ kAL := List.mem_filter.mpr ⟨kin_t5 _ (List.mem_of_getElem? (i := 167) rfl), rfl⟩
theorem kq_5_168 : Cond.methodLink "ParserparkLaw" 200 yX7_cleanShare ∈ kAL := List.mem_filter.mpr ⟨kin_t5 _ (List.mem_of_getElem? (i := 168) rfl), rfl⟩
theorem kq_5_169 : Cond.instanceMethod yX7_cleanShare ∈ kAL := List.mem_filter.mpr ⟨kin_t5 _ (List.mem_of_getElem? (i := 169) rfl), rfl⟩
theorem kq_5_170 : Cond.selects "ParserparkModel" yX7_cleanShare yX7_cleanShare ∈ kAL := List.mem_filter.mpr ⟨kin_t5 _ (List.mem_of_getElem? (i := 170) rfl), rfl⟩
theorem kq_5_171 : Cond.code yX7_cleanShare prog_9_method_53_code 1 (some .float) ∈ kAL := List.mem_filter.mpr ⟨kin_t5 _ (List.mem_of_getElem? (i := 171) rfl), rfl⟩
theorem kq_5_172 : Cond.methodLink "ParserparkLaw" 203 yX7_meanTrees ∈ kAL := List.mem_filter.mpr ⟨kin_t5 _ (List.mem_of_getElem? (i := 172) rfl), rfl⟩
theorem kq_5_173 : Cond.instanceMethod yX7_meanTrees ∈ kAL := List.mem_filter.mpr ⟨kin_t5 _ (List.mem_of_getElem? (i := 173) rfl), rfl⟩
theorem kq_5_174 : Cond.selects "ParserparkModel" yX7_meanTrees yX7_meanTrees ∈ kAL := List.mem_filter.mpr ⟨kin_t5 _ (List.mem_of_getElem? (i := 174) rfl), rfl⟩
theorem kq_5_175 : Cond.code yX7_meanTrees prog_9_method_54_code 3 (some .double) ∈ kAL := List.mem_filter.mpr ⟨kin_t5 _ (List.mem_of_getElem? (i := 175) rfl), rfl⟩
theorem kq_5_176 : Cond.methodLink "ParserparkLaw" 208 yX7_isSound ∈ kAL := List.mem_filter.mpr ⟨kin_t5 _ (List.mem_of_getElem? (i := 176) rfl), rfl⟩
theorem kq_5_177 : Cond.instanceMethod yX7_isSound ∈ kAL := List.mem_filter.mpr ⟨kin_t5 _ (List.mem_of_getElem? (i := 177) rfl), rfl⟩
theorem kq_5_178 : Cond.selects "ParserparkModel" yX7_isSound yX7_isSound ∈ kAL := List.mem_filter.mpr ⟨kin_t5 _ (List.mem_of_getElem? (i := 178) rfl), rfl⟩
theorem kq_5_179 : Cond.code yX7_isSound prog_9_method_55_code 1 (some .boolean) ∈ kAL := List.mem_filter.mpr ⟨kin_t5 _ (List.mem_of_getElem? (i := 179) rfl), rfl⟩
theorem kq_5_180 : Cond.arrayClass .long ∈ kAL := List.mem_filter.mpr ⟨kin_t5 _ (List.mem_of_getElem? (i := 180) rfl), rfl⟩
theorem kq_5_181 : Cond.arrayClass .double ∈ kAL := List.mem_filter.mpr ⟨kin_t5 _ (List.mem_of_getElem? (i := 181) rfl), rfl⟩
theorem kq_5_182 : Cond.sameMethod "java/lang/Throwable" "java/lang/Throwable" "fillInStackTrace" "(I)Ljava/lang/Throwable;" ∈ lw_tbl := kin_t5 _ (List.mem_of_getElem? (i := 182) rfl)
theorem kq_5_183 : Cond.castable "java/lang/ArrayIndexOutOfBoundsException" "java/lang/IndexOutOfBoundsException" ∈ kBL := List.mem_filter.mpr ⟨kin_t5 _ (List.mem_of_getElem? (i := 183) rfl), rfl⟩
theorem kq_5_184 : Cond.castable "Parserpark" "java/lang/Object" ∈ kBL := List.mem_filter.mpr ⟨kin_t5 _ (List.mem_of_getElem? (i := 184) rfl), rfl⟩
theorem kq_5_185 : Cond.castable "Parserpark$Grammar" "java/lang/Object" ∈ kBL := List.mem_filter.mpr ⟨kin_t5 _ (List.mem_of_getElem? (i := 185) rfl), rfl⟩
theorem kq_5_186 : Cond.castable "Parserpark$Spans" "java/lang/Object" ∈ kBL := List.mem_filter.mpr ⟨kin_t5 _ (List.mem_of_getElem? (i := 186) rfl), rfl⟩
theorem kq_5_187 : Cond.castable "Parserpark$Layout" "java/lang/Object" ∈ kBL := List.mem_filter.mpr ⟨kin_t5 _ (List.mem_of_getElem? (i := 187) rfl), rfl⟩
theorem kq_5_188 : Cond.castable "Parserpark$Trial" "java/lang/Object" ∈ kBL := List.mem_filter.mpr ⟨kin_t5 _ (List.mem_of_getElem? (i := 188) rfl), rfl⟩
theorem kq_5_189 : Cond.castable "ParserparkModel" "java/lang/Object" ∈ kBL := List.mem_filter.mpr ⟨kin_t5 _ (List.mem_of_getElem? (i := 189) rfl), rfl⟩
theorem kq_5_190 : Cond.castable "java/lang/IllegalArgumentException" "java/lang/Object" ∈ kBL := List.mem_filter.mpr ⟨kin_t5 _ (List.mem_of_getElem? (i := 190) rfl), rfl⟩
theorem kq_5_191 : Cond.castable "java/lang/IllegalStateException" "java/lang/Object" ∈ kBL := List.mem_filter.mpr ⟨kin_t5 _ (List.mem_of_getElem? (i := 191) rfl), rfl⟩
theorem kq_5_192 : Cond.castable "Parserpark$Rule" "java/lang/Object" ∈ kBL := List.mem_filter.mpr ⟨kin_t5 _ (List.mem_of_getElem? (i := 192) rfl), rfl⟩
theorem kq_5_193 : Cond.castable "java/util/NoSuchElementException" "java/lang/Object" ∈ kBL := List.mem_filter.mpr ⟨kin_t5 _ (List.mem_of_getElem? (i := 193) rfl), rfl⟩
theorem kq_5_194 : Cond.castable "Parserpark$Text" "java/lang/Object" ∈ kBL := List.mem_filter.mpr ⟨kin_t5 _ (List.mem_of_getElem? (i := 194) rfl), rfl⟩
theorem kq_5_195 : Cond.castable "java/lang/ArrayIndexOutOfBoundsException" "java/lang/Object" ∈ kBL := List.mem_filter.mpr ⟨kin_t5 _ (List.mem_of_getElem? (i := 195) rfl), rfl⟩
theorem kq_5_196 : Cond.castable "java/lang/IndexOutOfBoundsException" "java/lang/Object" ∈ kBL := List.mem_filter.mpr ⟨kin_t5 _ (List.mem_of_getElem? (i := 196) rfl), rfl⟩
theorem kq_5_197 : Cond.castable "java/lang/UnsupportedOperationException" "java/lang/Object" ∈ kBL := List.mem_filter.mpr ⟨kin_t5 _ (List.mem_of_getElem? (i := 197) rfl), rfl⟩
theorem kq_5_198 : Cond.castable "java/lang/ArithmeticException" "java/lang/Object" ∈ kBL := List.mem_filter.mpr ⟨kin_t5 _ (List.mem_of_getElem? (i := 198) rfl), rfl⟩
theorem kq_5_199 : Cond.castable "java/lang/Throwable" "java/lang/Object" ∈ kBL := List.mem_filter.mpr ⟨kin_t5 _ (List.mem_of_getElem? (i := 199) rfl), rfl⟩
theorem kq_5_200 : Cond.castable "java/lang/String" "java/lang/Object" ∈ kBL := List.mem_filter.mpr ⟨kin_t5 _ (List.mem_of_getElem? (i := 200) rfl), rfl⟩
theorem kq_p_0 : Cond.selects "Parserpark" yX6_isSoundText yX6_isSoundText ∈ kAL := List.mem_filter.mpr ⟨List.mem_append_left _ (List.mem_of_getElem? (i := 0) rfl), rfl⟩
theorem kq_p_1 : Cond.selects "Parserpark$Trial" yX5_tryName yX5_tryName ∈ kAL := List.mem_filter.mpr ⟨List.mem_append_left _ (List.mem_of_getElem? (i := 1) rfl), rfl⟩
theorem kq_p_2 : Cond.selects "Parserpark$Trial" yX5_tryRule yX5_tryRule ∈ kAL := List.mem_filter.mpr ⟨List.mem_append_left _ (List.mem_of_getElem? (i := 2) rfl), rfl⟩
theorem kq_p_3 : Cond.selects "Parserpark$Trial" yX5_tryPart yX5_tryPart ∈ kAL := List.mem_filter.mpr ⟨List.mem_append_left _ (List.mem_of_getElem? (i := 3) rfl), rfl⟩
theorem kq_p_4 : Cond.selects "Parserpark$Trial" yX5_tryBehindFirst yX5_tryBehindFirst ∈ kAL := List.mem_filter.mpr ⟨List.mem_append_left _ (List.mem_of_getElem? (i := 4) rfl), rfl⟩
theorem kq_p_5 : Cond.selects "Parserpark$Spans" yX3_findSpan yX3_findSpan ∈ kAL := List.mem_filter.mpr ⟨List.mem_append_left _ (List.mem_of_getElem? (i := 5) rfl), rfl⟩
theorem kq_p_6 : Cond.selects "Parserpark$Layout" yX1_clear yX1_clear ∈ kAL := List.mem_filter.mpr ⟨List.mem_append_left _ (List.mem_of_getElem? (i := 6) rfl), rfl⟩
theorem kq_p_7 : Cond.selects "Parserpark$Layout" yX1_push yX1_push ∈ kAL := List.mem_filter.mpr ⟨List.mem_append_left _ (List.mem_of_getElem? (i := 7) rfl), rfl⟩
theorem kq_p_8 : Cond.selects "Parserpark$Layout" yX1_layRule yX1_layRule ∈ kAL := List.mem_filter.mpr ⟨List.mem_append_left _ (List.mem_of_getElem? (i := 8) rfl), rfl⟩
theorem kq_p_9 : Cond.selects "Parserpark$Layout" yX1_pushParts yX1_pushParts ∈ kAL := List.mem_filter.mpr ⟨List.mem_append_left _ (List.mem_of_getElem? (i := 9) rfl), rfl⟩
theorem kq_p_10 : Cond.selects "Parserpark$Layout" yX1_setGap yX1_setGap ∈ kAL := List.mem_filter.mpr ⟨List.mem_append_left _ (List.mem_of_getElem? (i := 10) rfl), rfl⟩
theorem kq_p_12 : Cond.selects "Parserpark" yX6_findTouchedBy yX6_findTouchedBy ∈ kAL := List.mem_filter.mpr ⟨List.mem_append_left _ (List.mem_of_getElem? (i := 12) rfl), rfl⟩
theorem kq_p_13 : Cond.selects "Parserpark$Spans" yX3_hasIfLetter yX3_hasIfLetter ∈ kAL := List.mem_filter.mpr ⟨List.mem_append_left _ (List.mem_of_getElem? (i := 13) rfl), rfl⟩
theorem kq_p_14 : Cond.selects "Parserpark" yX6_existingRule yX6_existingRule ∈ kAL := List.mem_filter.mpr ⟨List.mem_append_left _ (List.mem_of_getElem? (i := 14) rfl), rfl⟩
theorem kq_p_15 : Cond.selects "Parserpark" yX6_existingText yX6_existingText ∈ kAL := List.mem_filter.mpr ⟨List.mem_append_left _ (List.mem_of_getElem? (i := 15) rfl), rfl⟩
theorem kq_p_16 : Cond.selects "Parserpark" yX6_layOut yX6_layOut ∈ kAL := List.mem_filter.mpr ⟨List.mem_append_left _ (List.mem_of_getElem? (i := 16) rfl), rfl⟩
theorem kq_p_17 : Cond.selects "Parserpark" yX6_faultOf yX6_faultOf ∈ kAL := List.mem_filter.mpr ⟨List.mem_append_left _ (List.mem_of_getElem? (i := 17) rfl), rfl⟩
theorem kq_p_18 : Cond.selects "Parserpark" yX6_countClean yX6_countClean ∈ kAL := List.mem_filter.mpr ⟨List.mem_append_left _ (List.mem_of_getElem? (i := 18) rfl), rfl⟩
theorem kq_p_19 : Cond.selects "Parserpark" yX6_lengthOfAmbiguousRow yX6_lengthOfAmbiguousRow ∈ kAL := List.mem_filter.mpr ⟨List.mem_append_left _ (List.mem_of_getElem? (i := 19) rfl), rfl⟩
theorem kq_p_20 : Cond.selects "Parserpark" yX6_findAmbiguousRow yX6_findAmbiguousRow ∈ kAL := List.mem_filter.mpr ⟨List.mem_append_left _ (List.mem_of_getElem? (i := 20) rfl), rfl⟩
theorem kq_p_21 : Cond.selects "ParserparkModel" yX7_touched yX7_touched ∈ kAL := List.mem_filter.mpr ⟨List.mem_append_left _ (List.mem_of_getElem? (i := 21) rfl), rfl⟩
theorem kq_p_22 : Cond.selects "ParserparkModel" yX7_isRule yX7_isRule ∈ kAL := List.mem_filter.mpr ⟨List.mem_append_left _ (List.mem_of_getElem? (i := 22) rfl), rfl⟩
theorem kq_p_23 : Cond.selects "ParserparkModel" yX7_isText yX7_isText ∈ kAL := List.mem_filter.mpr ⟨List.mem_append_left _ (List.mem_of_getElem? (i := 23) rfl), rfl⟩
theorem kq_p_24 : Cond.selects "ParserparkModel" yX7_laysText yX7_laysText ∈ kAL := List.mem_filter.mpr ⟨List.mem_append_left _ (List.mem_of_getElem? (i := 24) rfl), rfl⟩
theorem kq_p_25 : Cond.selects "ParserparkModel" yX7_lays yX7_lays ∈ kAL := List.mem_filter.mpr ⟨List.mem_append_left _ (List.mem_of_getElem? (i := 25) rfl), rfl⟩
theorem kq_p_26 : Cond.selects "ParserparkModel" yX7_ways yX7_ways ∈ kAL := List.mem_filter.mpr ⟨List.mem_append_left _ (List.mem_of_getElem? (i := 26) rfl), rfl⟩
theorem kq_p_27 : Cond.selects "ParserparkModel" yX7_part yX7_part ∈ kAL := List.mem_filter.mpr ⟨List.mem_append_left _ (List.mem_of_getElem? (i := 27) rfl), rfl⟩
theorem kq_p_28 : Cond.selects "ParserparkModel" yX7_twoParts yX7_twoParts ∈ kAL := List.mem_filter.mpr ⟨List.mem_append_left _ (List.mem_of_getElem? (i := 28) rfl), rfl⟩
theorem kq_p_29 : Cond.selects "ParserparkModel" yX7_isPlace yX7_isPlace ∈ kAL := List.mem_filter.mpr ⟨List.mem_append_left _ (List.mem_of_getElem? (i := 29) rfl), rfl⟩
theorem kq_p_30 : Cond.selects "ParserparkModel" yX7_asks yX7_asks ∈ kAL := List.mem_filter.mpr ⟨List.mem_append_left _ (List.mem_of_getElem? (i := 30) rfl), rfl⟩
theorem kq_p_31 : Cond.selects "ParserparkModel" yX7_walksText yX7_walksText ∈ kAL := List.mem_filter.mpr ⟨List.mem_append_left _ (List.mem_of_getElem? (i := 31) rfl), rfl⟩
theorem kq_p_32 : Cond.selects "ParserparkModel" yX7_walks yX7_walks ∈ kAL := List.mem_filter.mpr ⟨List.mem_append_left _ (List.mem_of_getElem? (i := 32) rfl), rfl⟩
theorem kq_p_33 : Cond.selects "ParserparkModel" yX7_chosen yX7_chosen ∈ kAL := List.mem_filter.mpr ⟨List.mem_append_left _ (List.mem_of_getElem? (i := 33) rfl), rfl⟩
theorem kq_p_34 : Cond.selects "ParserparkModel" yX7_sees yX7_sees ∈ kAL := List.mem_filter.mpr ⟨List.mem_append_left _ (List.mem_of_getElem? (i := 34) rfl), rfl⟩
theorem kq_p_35 : Cond.selects "ParserparkModel" yX7_cut yX7_cut ∈ kAL := List.mem_filter.mpr ⟨List.mem_append_left _ (List.mem_of_getElem? (i := 35) rfl), rfl⟩
theorem kq_p_36 : Cond.selects "ParserparkModel" yX7_blanks yX7_blanks ∈ kAL := List.mem_filter.mpr ⟨List.mem_append_left _ (List.mem_of_getElem? (i := 36) rfl), rfl⟩
theorem kq_p_37 : Cond.selects "ParserparkModel" yX7_faultOf yX7_faultOf ∈ kAL := List.mem_filter.mpr ⟨List.mem_append_left _ (List.mem_of_getElem? (i := 37) rfl), rfl⟩
theorem kq_p_38 : Cond.selects "ParserparkModel" yX7_clean yX7_clean ∈ kAL := List.mem_filter.mpr ⟨List.mem_append_left _ (List.mem_of_getElem? (i := 38) rfl), rfl⟩
theorem kq_p_39 : Cond.selects "ParserparkModel" yX7_asksRow yX7_asksRow ∈ kAL := List.mem_filter.mpr ⟨List.mem_append_left _ (List.mem_of_getElem? (i := 39) rfl), rfl⟩
theorem kq_p_40 : Cond.selects "ParserparkModel" yX7_finds yX7_finds ∈ kAL := List.mem_filter.mpr ⟨List.mem_append_left _ (List.mem_of_getElem? (i := 40) rfl), rfl⟩
theorem kwl_X0 : ∀ w ∈ u_ws RX0 TX0 2, w ∈ kAL := by
  intro w h
  obtain ⟨k, hk, rfl⟩ := List.mem_map.mp h
  have hk := List.mem_range.mp hk
  match k, hk with
  | 0, _ => exact kq_1_43
  | 1, _ => exact kq_1_45
  | k + 2, hk => exact absurd hk (by omega)
theorem kwl_X1 : ∀ w ∈ u_ws RX1 TX1 11, w ∈ kAL := by
  intro w h
  obtain ⟨k, hk, rfl⟩ := List.mem_map.mp h
  have hk := List.mem_range.mp hk
  match k, hk with
  | 0, _ => exact kq_1_91
  | 1, _ => exact kq_1_93
  | 2, _ => exact kq_1_95
  | 3, _ => exact kq_1_97
  | 4, _ => exact kq_1_99
  | 5, _ => exact kq_1_101
  | 6, _ => exact kq_1_103
  | 7, _ => exact kq_1_105
  | 8, _ => exact kq_1_107
  | 9, _ => exact kq_1_109
  | 10, _ => exact kq_1_111
  | k + 11, hk => exact absurd hk (by omega)
theorem kwl_X2 : ∀ w ∈ u_ws RX2 TX2 9, w ∈ kAL := by
  intro w h
  obtain ⟨k, hk, rfl⟩ := List.mem_map.mp h
  have hk := List.mem_range.mp hk
  match k, hk with
  | 0, _ => exact kq_2_188
  | 1, _ => exact kq_2_190
  | 2, _ => exact kq_2_192
  | 3, _ => exact kq_2_194
  | 4, _ => exact kq_2_196
  | 5, _ => exact kq_2_198
  | 6, _ => exact kq_2_200
  | 7, _ => exact kq_2_202
  | 8, _ => exact kq_2_204
  | k + 9, hk => exact absurd hk (by omega)
theorem kwl_X3 : ∀ w ∈ u_ws RX3 TX3 3, w ∈ kAL := by
  intro w h
  obtain ⟨k, hk, rfl⟩ := List.mem_map.mp h
  have hk := List.mem_range.mp hk
  match k, hk with
  | 0, _ => exact kq_1_62
  | 1, _ => exact kq_1_64
  | 2, _ => exact kq_1_66
  | k + 3, hk => exact absurd hk (by omega)
theorem kwl_X4 : ∀ w ∈ u_ws RX4 TX4 3, w ∈ kAL := by
  intro w h
  obtain ⟨k, hk, rfl⟩ := List.mem_map.mp h
  have hk := List.mem_range.mp hk
  match k, hk with
  | 0, _ => exact kq_3_51
  | 1, _ => exact kq_3_53
  | 2, _ => exact kq_3_55
  | k + 3, hk => exact absurd hk (by omega)
theorem kwl_X5 : ∀ w ∈ u_ws RX5 TX5 1, w ∈ kAL := by
  intro w h
  obtain ⟨k, hk, rfl⟩ := List.mem_map.mp h
  have hk := List.mem_range.mp hk
  match k, hk with
  | 0, _ => exact kq_1_121
  | k + 1, hk => exact absurd hk (by omega)
theorem kwl_X6 : ∀ w ∈ u_ws RX6 TX6 8, w ∈ kAL := by
  intro w h
  obtain ⟨k, hk, rfl⟩ := List.mem_map.mp h
  have hk := List.mem_range.mp hk
  match k, hk with
  | 0, _ => exact kq_1_132
  | 1, _ => exact kq_1_134
  | 2, _ => exact kq_1_136
  | 3, _ => exact kq_1_138
  | 4, _ => exact kq_1_140
  | 5, _ => exact kq_1_142
  | 6, _ => exact kq_1_144
  | 7, _ => exact kq_1_146
  | k + 8, hk => exact absurd hk (by omega)
theorem kwl_X7 : ∀ w ∈ u_ws RX7 TX7 25, w ∈ kAL := by
  intro w h
  obtain ⟨k, hk, rfl⟩ := List.mem_map.mp h
  have hk := List.mem_range.mp hk
  match k, hk with
  | 0, _ => exact kq_4_150
  | 1, _ => exact kq_4_152
  | 2, _ => exact kq_4_154
  | 3, _ => exact kq_4_156
  | 4, _ => exact kq_4_158
  | 5, _ => exact kq_4_160
  | 6, _ => exact kq_4_162
  | 7, _ => exact kq_4_164
  | 8, _ => exact kq_4_166
  | 9, _ => exact kq_4_168
  | 10, _ => exact kq_4_170
  | 11, _ => exact kq_4_172
  | 12, _ => exact kq_4_174
  | 13, _ => exact kq_4_176
  | 14, _ => exact kq_4_178
  | 15, _ => exact kq_4_180
  | 16, _ => exact kq_4_182
  | 17, _ => exact kq_4_184
  | 18, _ => exact kq_4_186
  | 19, _ => exact kq_4_188
  | 20, _ => exact kq_4_190
  | 21, _ => exact kq_4_192
  | 22, _ => exact kq_4_194
  | 23, _ => exact kq_4_196
  | 24, _ => exact kq_4_198
  | k + 25, hk => exact absurd hk (by omega)
/-- a field link of class own at index: of class ci, field j -/
def kFd (own : String) (index ci j : Nat) : Prop := ∃ (C : String) (T : u_T) (N : Nat) (ty : Nat → FieldType), vwCl[ci]? = some (C, T, N) ∧ (∀ w ∈ u_ws C T N, w ∈ kAL) ∧ j < N ∧ Cond.fieldLink own index (T j).1 (T j).2.1 (T j).2.2.1 ∈ kAL ∧ (∀ k, k < N → parseFieldDescriptor (T k).2.2.1 = some (ty k)) ∧ (∀ a, a < N → ∀ b, b < N → a ≠ b → (T a).2.1 ≠ (T b).2.1)
/-- .. its type, and whether it is final -/
def kFt (own : String) (ci j : Nat) (f : FieldType) (fin : Bool) : Prop := ∀ (C : String) (T : u_T) (N : Nat), vwCl[ci]? = some (C, T, N) → parseFieldDescriptor (T j).2.2.1 = some f ∧ (T j).2.2.2 = fin ∧ (T j).1 = own
theorem kf_X0_11 : kFd RX0 11 2 0 := ⟨RX0, TX0, 2, tyX0, rfl, kwl_X0, by decide, kq_1_38, tyX0_ok, nmX0⟩
theorem kf_X0_17 : kFd RX0 17 2 1 := ⟨RX0, TX0, 2, tyX0, rfl, kwl_X0, by decide, kq_1_39, tyX0_ok, nmX0⟩
theorem kf_X6_70 : kFd RX6 70 2 1 := ⟨RX0, TX0, 2, tyX0, rfl, kwl_X0, by decide, kq_1_40, tyX0_ok, nmX0⟩
theorem kf_X5_35 : kFd RX5 35 2 1 := ⟨RX0, TX0, 2, tyX0, rfl, kwl_X0, by decide, kq_1_41, tyX0_ok, nmX0⟩
theorem kf_X3_67 : kFd RX3 67 2 1 := ⟨RX0, TX0, 2, tyX0, rfl, kwl_X0, by decide, kq_1_42, tyX0_ok, nmX0⟩
theorem kf_X3_9 : kFd RX3 9 5 0 := ⟨RX3, TX3, 3, tyX3, rfl, kwl_X3, by decide, kq_1_56, tyX3_ok, nmX3⟩
theorem kf_X3_15 : kFd RX3 15 5 1 := ⟨RX3, TX3, 3, tyX3, rfl, kwl_X3, by decide, kq_1_57, tyX3_ok, nmX3⟩
theorem kf_X3_18 : kFd RX3 18 5 2 := ⟨RX3, TX3, 3, tyX3, rfl, kwl_X3, by decide, kq_1_58, tyX3_ok, nmX3⟩
theorem kf_X5_21 : kFd RX5 21 5 2 := ⟨RX3, TX3, 3, tyX3, rfl, kwl_X3, by decide, kq_1_59, tyX3_ok, nmX3⟩
theorem kf_X1_55 : kFd RX1 55 5 2 := ⟨RX3, TX3, 3, tyX3, rfl, kwl_X3, by decide, kq_1_60, tyX3_ok, nmX3⟩
theorem kf_X6_131 : kFd RX6 131 5 2 := ⟨RX3, TX3, 3, tyX3, rfl, kwl_X3, by decide, kq_1_61, tyX3_ok, nmX3⟩
theorem kf_X1_9 : kFd RX1 9 3 0 := ⟨RX1, TX1, 11, tyX1, rfl, kwl_X1, by decide, kq_1_76, tyX1_ok, nmX1⟩
theorem kf_X1_15 : kFd RX1 15 3 1 := ⟨RX1, TX1, 11, tyX1, rfl, kwl_X1, by decide, kq_1_77, tyX1_ok, nmX1⟩
theorem kf_X1_18 : kFd RX1 18 3 2 := ⟨RX1, TX1, 11, tyX1, rfl, kwl_X1, by decide, kq_1_78, tyX1_ok, nmX1⟩
theorem kf_X1_21 : kFd RX1 21 3 3 := ⟨RX1, TX1, 11, tyX1, rfl, kwl_X1, by decide, kq_1_79, tyX1_ok, nmX1⟩
theorem kf_X1_24 : kFd RX1 24 3 4 := ⟨RX1, TX1, 11, tyX1, rfl, kwl_X1, by decide, kq_1_80, tyX1_ok, nmX1⟩
theorem kf_X1_27 : kFd RX1 27 3 5 := ⟨RX1, TX1, 11, tyX1, rfl, kwl_X1, by decide, kq_1_81, tyX1_ok, nmX1⟩
theorem kf_X1_30 : kFd RX1 30 3 6 := ⟨RX1, TX1, 11, tyX1, rfl, kwl_X1, by decide, kq_1_82, tyX1_ok, nmX1⟩
theorem kf_X1_33 : kFd RX1 33 3 7 := ⟨RX1, TX1, 11, tyX1, rfl, kwl_X1, by decide, kq_1_83, tyX1_ok, nmX1⟩
theorem kf_X1_37 : kFd RX1 37 3 8 := ⟨RX1, TX1, 11, tyX1, rfl, kwl_X1, by decide, kq_1_84, tyX1_ok, nmX1⟩
theorem kf_X4_26 : kFd RX4 26 3 8 := ⟨RX1, TX1, 11, tyX1, rfl, kwl_X1, by decide, kq_1_85, tyX1_ok, nmX1⟩
theorem kf_X6_165 : kFd RX6 165 3 8 := ⟨RX1, TX1, 11, tyX1, rfl, kwl_X1, by decide, kq_1_86, tyX1_ok, nmX1⟩
theorem kf_X1_40 : kFd RX1 40 3 9 := ⟨RX1, TX1, 11, tyX1, rfl, kwl_X1, by decide, kq_1_87, tyX1_ok, nmX1⟩
theorem kf_X6_174 : kFd RX6 174 3 9 := ⟨RX1, TX1, 11, tyX1, rfl, kwl_X1, by decide, kq_1_88, tyX1_ok, nmX1⟩
theorem kf_X1_43 : kFd RX1 43 3 10 := ⟨RX1, TX1, 11, tyX1, rfl, kwl_X1, by decide, kq_1_89, tyX1_ok, nmX1⟩
theorem kf_X6_257 : kFd RX6 257 3 10 := ⟨RX1, TX1, 11, tyX1, rfl, kwl_X1, by decide, kq_1_90, tyX1_ok, nmX1⟩
theorem kf_X5_9 : kFd RX5 9 7 0 := ⟨RX5, TX5, 1, tyX5, rfl, kwl_X5, by decide, kq_1_120, tyX5_ok, nmX5⟩
theorem kf_X6_12 : kFd RX6 12 8 0 := ⟨RX6, TX6, 8, tyX6, rfl, kwl_X6, by decide, kq_1_124, tyX6_ok, nmX6⟩
theorem kf_X6_18 : kFd RX6 18 8 1 := ⟨RX6, TX6, 8, tyX6, rfl, kwl_X6, by decide, kq_1_125, tyX6_ok, nmX6⟩
theorem kf_X6_25 : kFd RX6 25 8 2 := ⟨RX6, TX6, 8, tyX6, rfl, kwl_X6, by decide, kq_1_126, tyX6_ok, nmX6⟩
theorem kf_X6_32 : kFd RX6 32 8 3 := ⟨RX6, TX6, 8, tyX6, rfl, kwl_X6, by decide, kq_1_127, tyX6_ok, nmX6⟩
theorem kf_X6_39 : kFd RX6 39 8 4 := ⟨RX6, TX6, 8, tyX6, rfl, kwl_X6, by decide, kq_1_128, tyX6_ok, nmX6⟩
theorem kf_X6_43 : kFd RX6 43 8 5 := ⟨RX6, TX6, 8, tyX6, rfl, kwl_X6, by decide, kq_1_129, tyX6_ok, nmX6⟩
theorem kf_X6_47 : kFd RX6 47 8 6 := ⟨RX6, TX6, 8, tyX6, rfl, kwl_X6, by decide, kq_1_130, tyX6_ok, nmX6⟩
theorem kf_X6_50 : kFd RX6 50 8 7 := ⟨RX6, TX6, 8, tyX6, rfl, kwl_X6, by decide, kq_1_131, tyX6_ok, nmX6⟩
theorem kf_X2_23 : kFd RX2 23 4 0 := ⟨RX2, TX2, 9, tyX2, rfl, kwl_X2, by decide, kq_2_157, tyX2_ok, nmX2⟩
theorem kf_X6_84 : kFd RX6 84 4 0 := ⟨RX2, TX2, 9, tyX2, rfl, kwl_X2, by decide, kq_2_158, tyX2_ok, nmX2⟩
theorem kf_X1_92 : kFd RX1 92 4 0 := ⟨RX2, TX2, 9, tyX2, rfl, kwl_X2, by decide, kq_2_159, tyX2_ok, nmX2⟩
theorem kf_X2_26 : kFd RX2 26 4 1 := ⟨RX2, TX2, 9, tyX2, rfl, kwl_X2, by decide, kq_2_160, tyX2_ok, nmX2⟩
theorem kf_X5_44 : kFd RX5 44 4 1 := ⟨RX2, TX2, 9, tyX2, rfl, kwl_X2, by decide, kq_2_161, tyX2_ok, nmX2⟩
theorem kf_X0_29 : kFd RX0 29 4 1 := ⟨RX2, TX2, 9, tyX2, rfl, kwl_X2, by decide, kq_2_162, tyX2_ok, nmX2⟩
theorem kf_X3_76 : kFd RX3 76 4 1 := ⟨RX2, TX2, 9, tyX2, rfl, kwl_X2, by decide, kq_2_163, tyX2_ok, nmX2⟩
theorem kf_X2_29 : kFd RX2 29 4 2 := ⟨RX2, TX2, 9, tyX2, rfl, kwl_X2, by decide, kq_2_164, tyX2_ok, nmX2⟩
theorem kf_X5_60 : kFd RX5 60 4 2 := ⟨RX2, TX2, 9, tyX2, rfl, kwl_X2, by decide, kq_2_165, tyX2_ok, nmX2⟩
theorem kf_X1_117 : kFd RX1 117 4 2 := ⟨RX2, TX2, 9, tyX2, rfl, kwl_X2, by decide, kq_2_166, tyX2_ok, nmX2⟩
theorem kf_X3_42 : kFd RX3 42 4 2 := ⟨RX2, TX2, 9, tyX2, rfl, kwl_X2, by decide, kq_2_167, tyX2_ok, nmX2⟩
theorem kf_X2_32 : kFd RX2 32 4 3 := ⟨RX2, TX2, 9, tyX2, rfl, kwl_X2, by decide, kq_2_168, tyX2_ok, nmX2⟩
theorem kf_X5_57 : kFd RX5 57 4 3 := ⟨RX2, TX2, 9, tyX2, rfl, kwl_X2, by decide, kq_2_169, tyX2_ok, nmX2⟩
theorem kf_X1_114 : kFd RX1 114 4 3 := ⟨RX2, TX2, 9, tyX2, rfl, kwl_X2, by decide, kq_2_170, tyX2_ok, nmX2⟩
theorem kf_X3_51 : kFd RX3 51 4 3 := ⟨RX2, TX2, 9, tyX2, rfl, kwl_X2, by decide, kq_2_171, tyX2_ok, nmX2⟩
theorem kf_X2_35 : kFd RX2 35 4 4 := ⟨RX2, TX2, 9, tyX2, rfl, kwl_X2, by decide, kq_2_172, tyX2_ok, nmX2⟩
theorem kf_X5_69 : kFd RX5 69 4 4 := ⟨RX2, TX2, 9, tyX2, rfl, kwl_X2, by decide, kq_2_173, tyX2_ok, nmX2⟩
theorem kf_X1_104 : kFd RX1 104 4 4 := ⟨RX2, TX2, 9, tyX2, rfl, kwl_X2, by decide, kq_2_174, tyX2_ok, nmX2⟩
theorem kf_X3_54 : kFd RX3 54 4 4 := ⟨RX2, TX2, 9, tyX2, rfl, kwl_X2, by decide, kq_2_175, tyX2_ok, nmX2⟩
theorem kf_X2_7 : kFd RX2 7 4 5 := ⟨RX2, TX2, 9, tyX2, rfl, kwl_X2, by decide, kq_2_176, tyX2_ok, nmX2⟩
theorem kf_X6_99 : kFd RX6 99 4 5 := ⟨RX2, TX2, 9, tyX2, rfl, kwl_X2, by decide, kq_2_177, tyX2_ok, nmX2⟩
theorem kf_X0_32 : kFd RX0 32 4 5 := ⟨RX2, TX2, 9, tyX2, rfl, kwl_X2, by decide, kq_2_178, tyX2_ok, nmX2⟩
theorem kf_X2_13 : kFd RX2 13 4 6 := ⟨RX2, TX2, 9, tyX2, rfl, kwl_X2, by decide, kq_2_179, tyX2_ok, nmX2⟩
theorem kf_X1_97 : kFd RX1 97 4 6 := ⟨RX2, TX2, 9, tyX2, rfl, kwl_X2, by decide, kq_2_180, tyX2_ok, nmX2⟩
theorem kf_X6_102 : kFd RX6 102 4 6 := ⟨RX2, TX2, 9, tyX2, rfl, kwl_X2, by decide, kq_2_181, tyX2_ok, nmX2⟩
theorem kf_X2_16 : kFd RX2 16 4 7 := ⟨RX2, TX2, 9, tyX2, rfl, kwl_X2, by decide, kq_2_182, tyX2_ok, nmX2⟩
theorem kf_X6_105 : kFd RX6 105 4 7 := ⟨RX2, TX2, 9, tyX2, rfl, kwl_X2, by decide, kq_2_183, tyX2_ok, nmX2⟩
theorem kf_X1_107 : kFd RX1 107 4 7 := ⟨RX2, TX2, 9, tyX2, rfl, kwl_X2, by decide, kq_2_184, tyX2_ok, nmX2⟩
theorem kf_X2_19 : kFd RX2 19 4 8 := ⟨RX2, TX2, 9, tyX2, rfl, kwl_X2, by decide, kq_2_185, tyX2_ok, nmX2⟩
theorem kf_X6_91 : kFd RX6 91 4 8 := ⟨RX2, TX2, 9, tyX2, rfl, kwl_X2, by decide, kq_2_186, tyX2_ok, nmX2⟩
theorem kf_X0_21 : kFd RX0 21 4 8 := ⟨RX2, TX2, 9, tyX2, rfl, kwl_X2, by decide, kq_2_187, tyX2_ok, nmX2⟩
theorem kf_X4_12 : kFd RX4 12 6 0 := ⟨RX4, TX4, 3, tyX4, rfl, kwl_X4, by decide, kq_3_46, tyX4_ok, nmX4⟩
theorem kf_X6_117 : kFd RX6 117 6 0 := ⟨RX4, TX4, 3, tyX4, rfl, kwl_X4, by decide, kq_3_47, tyX4_ok, nmX4⟩
theorem kf_X4_18 : kFd RX4 18 6 1 := ⟨RX4, TX4, 3, tyX4, rfl, kwl_X4, by decide, kq_3_48, tyX4_ok, nmX4⟩
theorem kf_X4_22 : kFd RX4 22 6 2 := ⟨RX4, TX4, 3, tyX4, rfl, kwl_X4, by decide, kq_3_49, tyX4_ok, nmX4⟩
theorem kf_X6_233 : kFd RX6 233 6 2 := ⟨RX4, TX4, 3, tyX4, rfl, kwl_X4, by decide, kq_3_50, tyX4_ok, nmX4⟩
theorem kf_X7_7 : kFd RX7 7 9 0 := ⟨RX7, TX7, 25, tyX7, rfl, kwl_X7, by decide, kq_4_125, tyX7_ok, nmX7⟩
theorem kf_X7_13 : kFd RX7 13 9 1 := ⟨RX7, TX7, 25, tyX7, rfl, kwl_X7, by decide, kq_4_126, tyX7_ok, nmX7⟩
theorem kf_X7_16 : kFd RX7 16 9 2 := ⟨RX7, TX7, 25, tyX7, rfl, kwl_X7, by decide, kq_4_127, tyX7_ok, nmX7⟩
theorem kf_X7_19 : kFd RX7 19 9 3 := ⟨RX7, TX7, 25, tyX7, rfl, kwl_X7, by decide, kq_4_128, tyX7_ok, nmX7⟩
theorem kf_X7_22 : kFd RX7 22 9 4 := ⟨RX7, TX7, 25, tyX7, rfl, kwl_X7, by decide, kq_4_129, tyX7_ok, nmX7⟩
theorem kf_X7_25 : kFd RX7 25 9 5 := ⟨RX7, TX7, 25, tyX7, rfl, kwl_X7, by decide, kq_4_130, tyX7_ok, nmX7⟩
theorem kf_X7_28 : kFd RX7 28 9 6 := ⟨RX7, TX7, 25, tyX7, rfl, kwl_X7, by decide, kq_4_131, tyX7_ok, nmX7⟩
theorem kf_X7_96 : kFd RX7 96 9 7 := ⟨RX7, TX7, 25, tyX7, rfl, kwl_X7, by decide, kq_4_132, tyX7_ok, nmX7⟩
theorem kf_X7_32 : kFd RX7 32 9 8 := ⟨RX7, TX7, 25, tyX7, rfl, kwl_X7, by decide, kq_4_133, tyX7_ok, nmX7⟩
theorem kf_X7_35 : kFd RX7 35 9 9 := ⟨RX7, TX7, 25, tyX7, rfl, kwl_X7, by decide, kq_4_134, tyX7_ok, nmX7⟩
theorem kf_X7_38 : kFd RX7 38 9 10 := ⟨RX7, TX7, 25, tyX7, rfl, kwl_X7, by decide, kq_4_135, tyX7_ok, nmX7⟩
theorem kf_X7_41 : kFd RX7 41 9 11 := ⟨RX7, TX7, 25, tyX7, rfl, kwl_X7, by decide, kq_4_136, tyX7_ok, nmX7⟩
theorem kf_X7_134 : kFd RX7 134 9 12 := ⟨RX7, TX7, 25, tyX7, rfl, kwl_X7, by decide, kq_4_137, tyX7_ok, nmX7⟩
theorem kf_X7_137 : kFd RX7 137 9 13 := ⟨RX7, TX7, 25, tyX7, rfl, kwl_X7, by decide, kq_4_138, tyX7_ok, nmX7⟩
theorem kf_X7_175 : kFd RX7 175 9 14 := ⟨RX7, TX7, 25, tyX7, rfl, kwl_X7, by decide, kq_4_139, tyX7_ok, nmX7⟩
theorem kf_X7_44 : kFd RX7 44 9 15 := ⟨RX7, TX7, 25, tyX7, rfl, kwl_X7, by decide, kq_4_140, tyX7_ok, nmX7⟩
theorem kf_X7_93 : kFd RX7 93 9 16 := ⟨RX7, TX7, 25, tyX7, rfl, kwl_X7, by decide, kq_4_141, tyX7_ok, nmX7⟩
theorem kf_X7_47 : kFd RX7 47 9 17 := ⟨RX7, TX7, 25, tyX7, rfl, kwl_X7, by decide, kq_4_142, tyX7_ok, nmX7⟩
theorem kf_X7_50 : kFd RX7 50 9 18 := ⟨RX7, TX7, 25, tyX7, rfl, kwl_X7, by decide, kq_4_143, tyX7_ok, nmX7⟩
theorem kf_X7_115 : kFd RX7 115 9 19 := ⟨RX7, TX7, 25, tyX7, rfl, kwl_X7, by decide, kq_4_144, tyX7_ok, nmX7⟩
theorem kf_X7_53 : kFd RX7 53 9 20 := ⟨RX7, TX7, 25, tyX7, rfl, kwl_X7, by decide, kq_4_145, tyX7_ok, nmX7⟩
theorem kf_X7_56 : kFd RX7 56 9 21 := ⟨RX7, TX7, 25, tyX7, rfl, kwl_X7, by decide, kq_4_146, tyX7_ok, nmX7⟩
theorem kf_X7_109 : kFd RX7 109 9 22 := ⟨RX7, TX7, 25, tyX7, rfl, kwl_X7, by decide, kq_4_147, tyX7_ok, nmX7⟩
theorem kf_X7_118 : kFd RX7 118 9 23 := ⟨RX7, TX7, 25, tyX7, rfl, kwl_X7, by decide, kq_4_148, tyX7_ok, nmX7⟩
theorem kf_X7_60 : kFd RX7 60 9 24 := ⟨RX7, TX7, 25, tyX7, rfl, kwl_X7, by decide, kq_4_149, tyX7_ok, nmX7⟩
theorem kt_X0_0 : kFt RX0 2 0 (.array (.object "Parserpark$Rule")) true := fun C T N h => by cases h; exact ⟨by decide +kernel, rfl, rfl⟩
theorem kt_X0_1 : kFt RX0 2 1 .int false := fun C T N h => by cases h; exact ⟨by decide +kernel, rfl, rfl⟩
theorem kt_X1_0 : kFt RX1 3 0 (.array .int) true := fun C T N h => by cases h; exact ⟨by decide +kernel, rfl, rfl⟩
theorem kt_X1_1 : kFt RX1 3 1 (.array .int) true := fun C T N h => by cases h; exact ⟨by decide +kernel, rfl, rfl⟩
theorem kt_X1_2 : kFt RX1 3 2 (.array .int) true := fun C T N h => by cases h; exact ⟨by decide +kernel, rfl, rfl⟩
theorem kt_X1_3 : kFt RX1 3 3 (.array .int) true := fun C T N h => by cases h; exact ⟨by decide +kernel, rfl, rfl⟩
theorem kt_X1_4 : kFt RX1 3 4 (.array .int) true := fun C T N h => by cases h; exact ⟨by decide +kernel, rfl, rfl⟩
theorem kt_X1_5 : kFt RX1 3 5 (.array .int) true := fun C T N h => by cases h; exact ⟨by decide +kernel, rfl, rfl⟩
theorem kt_X1_6 : kFt RX1 3 6 (.array .int) true := fun C T N h => by cases h; exact ⟨by decide +kernel, rfl, rfl⟩
theorem kt_X1_7 : kFt RX1 3 7 .int false := fun C T N h => by cases h; exact ⟨by decide +kernel, rfl, rfl⟩
theorem kt_X1_8 : kFt RX1 3 8 .int false := fun C T N h => by cases h; exact ⟨by decide +kernel, rfl, rfl⟩
theorem kt_X1_9 : kFt RX1 3 9 .int false := fun C T N h => by cases h; exact ⟨by decide +kernel, rfl, rfl⟩
theorem kt_X1_10 : kFt RX1 3 10 .int false := fun C T N h => by cases h; exact ⟨by decide +kernel, rfl, rfl⟩
theorem kt_X2_0 : kFt RX2 4 0 .int true := fun C T N h => by cases h; exact ⟨by decide +kernel, rfl, rfl⟩
theorem kt_X2_1 : kFt RX2 4 1 .int true := fun C T N h => by cases h; exact ⟨by decide +kernel, rfl, rfl⟩
theorem kt_X2_2 : kFt RX2 4 2 .int true := fun C T N h => by cases h; exact ⟨by decide +kernel, rfl, rfl⟩
theorem kt_X2_3 : kFt RX2 4 3 .int true := fun C T N h => by cases h; exact ⟨by decide +kernel, rfl, rfl⟩
theorem kt_X2_4 : kFt RX2 4 4 .int true := fun C T N h => by cases h; exact ⟨by decide +kernel, rfl, rfl⟩
theorem kt_X2_5 : kFt RX2 4 5 .int false := fun C T N h => by cases h; exact ⟨by decide +kernel, rfl, rfl⟩
theorem kt_X2_6 : kFt RX2 4 6 .int false := fun C T N h => by cases h; exact ⟨by decide +kernel, rfl, rfl⟩
theorem kt_X2_7 : kFt RX2 4 7 .int false := fun C T N h => by cases h; exact ⟨by decide +kernel, rfl, rfl⟩
theorem kt_X2_8 : kFt RX2 4 8 .boolean false := fun C T N h => by cases h; exact ⟨by decide +kernel, rfl, rfl⟩
theorem kt_X3_0 : kFt RX3 5 0 (.array .int) true := fun C T N h => by cases h; exact ⟨by decide +kernel, rfl, rfl⟩
theorem kt_X3_1 : kFt RX3 5 1 (.array .int) true := fun C T N h => by cases h; exact ⟨by decide +kernel, rfl, rfl⟩
theorem kt_X3_2 : kFt RX3 5 2 .int false := fun C T N h => by cases h; exact ⟨by decide +kernel, rfl, rfl⟩
theorem kt_X4_0 : kFt RX4 6 0 (.object "Parserpark$Spans") true := fun C T N h => by cases h; exact ⟨by decide +kernel, rfl, rfl⟩
theorem kt_X4_1 : kFt RX4 6 1 (.array .int) true := fun C T N h => by cases h; exact ⟨by decide +kernel, rfl, rfl⟩
theorem kt_X4_2 : kFt RX4 6 2 .int false := fun C T N h => by cases h; exact ⟨by decide +kernel, rfl, rfl⟩
theorem kt_X5_0 : kFt RX5 7 0 (.array .int) true := fun C T N h => by cases h; exact ⟨by decide +kernel, rfl, rfl⟩
theorem kt_X6_0 : kFt RX6 8 0 (.object "Parserpark$Grammar") true := fun C T N h => by cases h; exact ⟨by decide +kernel, rfl, rfl⟩
theorem kt_X6_1 : kFt RX6 8 1 (.array (.object "Parserpark$Text")) true := fun C T N h => by cases h; exact ⟨by decide +kernel, rfl, rfl⟩
theorem kt_X6_2 : kFt RX6 8 2 (.object "Parserpark$Spans") true := fun C T N h => by cases h; exact ⟨by decide +kernel, rfl, rfl⟩
theorem kt_X6_3 : kFt RX6 8 3 (.object "Parserpark$Layout") true := fun C T N h => by cases h; exact ⟨by decide +kernel, rfl, rfl⟩
theorem kt_X6_4 : kFt RX6 8 4 (.object "Parserpark$Trial") true := fun C T N h => by cases h; exact ⟨by decide +kernel, rfl, rfl⟩
theorem kt_X6_5 : kFt RX6 8 5 .int false := fun C T N h => by cases h; exact ⟨by decide +kernel, rfl, rfl⟩
theorem kt_X6_6 : kFt RX6 8 6 .int false := fun C T N h => by cases h; exact ⟨by decide +kernel, rfl, rfl⟩
theorem kt_X6_7 : kFt RX6 8 7 .long false := fun C T N h => by cases h; exact ⟨by decide +kernel, rfl, rfl⟩
theorem kt_X7_0 : kFt RX7 9 0 (.array .int) true := fun C T N h => by cases h; exact ⟨by decide +kernel, rfl, rfl⟩
theorem kt_X7_1 : kFt RX7 9 1 (.array .int) true := fun C T N h => by cases h; exact ⟨by decide +kernel, rfl, rfl⟩
theorem kt_X7_2 : kFt RX7 9 2 (.array .int) true := fun C T N h => by cases h; exact ⟨by decide +kernel, rfl, rfl⟩
theorem kt_X7_3 : kFt RX7 9 3 (.array .int) true := fun C T N h => by cases h; exact ⟨by decide +kernel, rfl, rfl⟩
theorem kt_X7_4 : kFt RX7 9 4 (.array .int) true := fun C T N h => by cases h; exact ⟨by decide +kernel, rfl, rfl⟩
theorem kt_X7_5 : kFt RX7 9 5 (.array .int) true := fun C T N h => by cases h; exact ⟨by decide +kernel, rfl, rfl⟩
theorem kt_X7_6 : kFt RX7 9 6 (.array .boolean) true := fun C T N h => by cases h; exact ⟨by decide +kernel, rfl, rfl⟩
theorem kt_X7_7 : kFt RX7 9 7 .int false := fun C T N h => by cases h; exact ⟨by decide +kernel, rfl, rfl⟩
theorem kt_X7_8 : kFt RX7 9 8 (.array .int) true := fun C T N h => by cases h; exact ⟨by decide +kernel, rfl, rfl⟩
theorem kt_X7_9 : kFt RX7 9 9 (.array .int) true := fun C T N h => by cases h; exact ⟨by decide +kernel, rfl, rfl⟩
theorem kt_X7_10 : kFt RX7 9 10 (.array .int) true := fun C T N h => by cases h; exact ⟨by decide +kernel, rfl, rfl⟩
theorem kt_X7_11 : kFt RX7 9 11 (.array .int) true := fun C T N h => by cases h; exact ⟨by decide +kernel, rfl, rfl⟩
theorem kt_X7_12 : kFt RX7 9 12 .int false := fun C T N h => by cases h; exact ⟨by decide +kernel, rfl, rfl⟩
theorem kt_X7_13 : kFt RX7 9 13 .long false := fun C T N h => by cases h; exact ⟨by decide +kernel, rfl, rfl⟩
theorem kt_X7_14 : kFt RX7 9 14 .int false := fun C T N h => by cases h; exact ⟨by decide +kernel, rfl, rfl⟩
theorem kt_X7_15 : kFt RX7 9 15 (.array .int) true := fun C T N h => by cases h; exact ⟨by decide +kernel, rfl, rfl⟩
theorem kt_X7_16 : kFt RX7 9 16 .int false := fun C T N h => by cases h; exact ⟨by decide +kernel, rfl, rfl⟩
theorem kt_X7_17 : kFt RX7 9 17 (.array .int) true := fun C T N h => by cases h; exact ⟨by decide +kernel, rfl, rfl⟩
theorem kt_X7_18 : kFt RX7 9 18 (.array .int) true := fun C T N h => by cases h; exact ⟨by decide +kernel, rfl, rfl⟩
theorem kt_X7_19 : kFt RX7 9 19 .int false := fun C T N h => by cases h; exact ⟨by decide +kernel, rfl, rfl⟩
theorem kt_X7_20 : kFt RX7 9 20 (.array .int) true := fun C T N h => by cases h; exact ⟨by decide +kernel, rfl, rfl⟩
theorem kt_X7_21 : kFt RX7 9 21 (.array .char) true := fun C T N h => by cases h; exact ⟨by decide +kernel, rfl, rfl⟩
theorem kt_X7_22 : kFt RX7 9 22 .int false := fun C T N h => by cases h; exact ⟨by decide +kernel, rfl, rfl⟩
theorem kt_X7_23 : kFt RX7 9 23 .int false := fun C T N h => by cases h; exact ⟨by decide +kernel, rfl, rfl⟩
theorem kt_X7_24 : kFt RX7 9 24 .int false := fun C T N h => by cases h; exact ⟨by decide +kernel, rfl, rfl⟩
def kYd (y : MethodName) (n : Nat) : Prop := y.cls ≠ "java/lang/invoke/MethodHandle" ∧ y.cls ≠ "java/lang/invoke/VarHandle" ∧ (parseMethodDescriptor y.desc).map (fun d => d.parameters.length) = some n
def kYV (y : MethodName) (b : ByteArray) (mL : Nat) (ret : Option FieldType) (n : Nat) : Prop := Cond.code y b mL ret ∈ kAL ∧ Cond.instanceMethod y ∈ kAL ∧ Cond.selects y.cls y y ∈ kAL ∧ Cond.initialized y.cls ∈ kAL ∧ kYd y n
def kYS (y : MethodName) (b : ByteArray) (mL : Nat) (ret : Option FieldType) (n : Nat) : Prop := Cond.code y b mL ret ∈ kAL ∧ Cond.static y ∈ kAL ∧ Cond.initialized y.cls ∈ kAL ∧ kYd y n
def kYI (y : MethodName) (b : ByteArray) (mL n : Nat) : Prop := Cond.code y b mL none ∈ kAL ∧ Cond.instanceMethod y ∈ kAL ∧ Cond.initialized y.cls ∈ kAL ∧ kYd y n ∧ y.name = "<init>"
def kYW (y : MethodName) (b : ByteArray) (mL : Nat) (ret : Option FieldType) (hh : List (Nat × Nat × Nat × Nat)) (n : Nat) : Prop := Cond.codeWith y b mL ret hh ∈ kAL ∧ Cond.static y ∈ kAL ∧ Cond.initialized y.cls ∈ kAL ∧ kYd y n
theorem mX6_rules : kYV yX6_rules cX6_rules 1 (some .int) 0 := ⟨kq_1_152, kq_1_150, kq_1_151, kq_1_1, ⟨by decide +kernel, by decide +kernel, by decide +kernel⟩⟩
theorem mX0_countLive : kYV yX0_countLive cX0_countLive 3 (some .int) 0 := ⟨kq_1_156, kq_1_154, kq_1_155, kq_1_2, ⟨by decide +kernel, by decide +kernel, by decide +kernel⟩⟩
theorem mX0_liveRule : kYV yX0_liveRule cX0_liveRule 3 (some (.object "Parserpark$Rule")) 1 := ⟨kq_1_160, kq_1_158, kq_1_159, kq_1_2, ⟨by decide +kernel, by decide +kernel, by decide +kernel⟩⟩
theorem mX6_work : kYV yX6_work cX6_work 1 (some .long) 0 := ⟨kq_1_164, kq_1_162, kq_1_163, kq_1_1, ⟨by decide +kernel, by decide +kernel, by decide +kernel⟩⟩
theorem mX6_isSound : kYV yX6_isSound cX6_isSound 5 (some .boolean) 0 := ⟨kq_1_168, kq_1_166, kq_1_167, kq_1_1, ⟨by decide +kernel, by decide +kernel, by decide +kernel⟩⟩
theorem mX6_isSoundText : kYV yX6_isSoundText cX6_isSoundText 3 (some .boolean) 1 := ⟨kq_1_172, kq_1_171, kq_p_0, kq_1_1, ⟨by decide +kernel, by decide +kernel, by decide +kernel⟩⟩
theorem mX3_treesOfAll : kYV yX3_treesOfAll cX3_treesOfAll 1 (some .int) 0 := ⟨kq_1_176, kq_1_174, kq_1_175, kq_1_3, ⟨by decide +kernel, by decide +kernel, by decide +kernel⟩⟩
theorem mX3_treesOf : kYV yX3_treesOf cX3_treesOf 4 (some .int) 3 := ⟨kq_1_180, kq_1_178, kq_1_179, kq_1_3, ⟨by decide +kernel, by decide +kernel, by decide +kernel⟩⟩
theorem mX5_treesOfAll : kYV yX5_treesOfAll cX5_treesOfAll 3 (some .int) 2 := ⟨kq_1_184, kq_1_182, kq_1_183, kq_1_5, ⟨by decide +kernel, by decide +kernel, by decide +kernel⟩⟩
theorem mX5_tryName : kYV yX5_tryName cX5_tryName 11 (some .int) 6 := ⟨kq_1_191, kq_1_190, kq_p_1, kq_1_5, ⟨by decide +kernel, by decide +kernel, by decide +kernel⟩⟩
theorem mX6_spot : kYS yX6_spot cX6_spot 3 (some .int) 3 := ⟨kq_1_194, kq_1_193, kq_1_1, ⟨by decide +kernel, by decide +kernel, by decide +kernel⟩⟩
theorem mX5_tryRule : kYV yX5_tryRule cX5_tryRule 10 (some .int) 6 := ⟨kq_1_199, kq_1_198, kq_p_2, kq_1_5, ⟨by decide +kernel, by decide +kernel, by decide +kernel⟩⟩
theorem mX5_tryPart : kYV yX5_tryPart cX5_tryPart 7 (some .int) 6 := ⟨kq_1_203, kq_1_202, kq_p_3, kq_1_5, ⟨by decide +kernel, by decide +kernel, by decide +kernel⟩⟩
theorem mX6_isLetter : kYS yX6_isLetter cX6_isLetter 1 (some .boolean) 1 := ⟨kq_1_206, kq_1_205, kq_1_1, ⟨by decide +kernel, by decide +kernel, by decide +kernel⟩⟩
theorem mX5_tryBehindFirst : kYV yX5_tryBehindFirst cX5_tryBehindFirst 10 (some .int) 6 := ⟨kq_1_211, kq_1_210, kq_p_4, kq_1_5, ⟨by decide +kernel, by decide +kernel, by decide +kernel⟩⟩
theorem mX6_limited : kYS yX6_limited cX6_limited 1 (some .int) 1 := ⟨kq_1_214, kq_1_213, kq_1_1, ⟨by decide +kernel, by decide +kernel, by decide +kernel⟩⟩
theorem mX3_letterOf : kYV yX3_letterOf cX3_letterOf 2 (some .int) 1 := ⟨kq_1_222, kq_1_220, kq_1_221, kq_1_3, ⟨by decide +kernel, by decide +kernel, by decide +kernel⟩⟩
theorem mX3_findAll : kYV yX3_findAll cX3_findAll 5 (some .int) 1 := ⟨kq_1_230, kq_1_228, kq_1_229, kq_1_3, ⟨by decide +kernel, by decide +kernel, by decide +kernel⟩⟩
theorem mX3_treesByRule : kYV yX3_treesByRule cX3_treesByRule 9 (some .int) 3 := ⟨kq_1_239, kq_1_237, kq_1_238, kq_1_3, ⟨by decide +kernel, by decide +kernel, by decide +kernel⟩⟩
theorem mX3_hasNumbersOf : kYV yX3_hasNumbersOf cX3_hasNumbersOf 5 (some .boolean) 1 := ⟨kq_2_5, kq_2_3, kq_2_4, kq_1_3, ⟨by decide +kernel, by decide +kernel, by decide +kernel⟩⟩
theorem mJ9_max_7cf53 : kYS yJ9_max_7cf53 cJ9_max_7cf53 2 (some .int) 2 := ⟨kq_2_23, kq_2_22, kq_1_15, ⟨by decide +kernel, by decide +kernel, by decide +kernel⟩⟩
theorem mX0_chosenRule : kYV yX0_chosenRule cX0_chosenRule 9 (some (.object "Parserpark$Rule")) 4 := ⟨kq_2_27, kq_2_25, kq_2_26, kq_1_2, ⟨by decide +kernel, by decide +kernel, by decide +kernel⟩⟩
theorem mX3_splitOf : kYV yX3_splitOf cX3_splitOf 7 (some .int) 3 := ⟨kq_2_31, kq_2_29, kq_2_30, kq_1_3, ⟨by decide +kernel, by decide +kernel, by decide +kernel⟩⟩
theorem mL_addRule : kYW yL_addRule cL_addRule 7 (some .int) [(0, 14, 17, 13), (0, 14, 21, 15)] 6 := ⟨kq_2_47, kq_2_46, kq_1_0, ⟨by decide +kernel, by decide +kernel, by decide +kernel⟩⟩
theorem mX6_addRule : kYV yX6_addRule cX6_addRule 6 (some .int) 4 := ⟨kq_2_53, kq_2_51, kq_2_52, kq_1_1, ⟨by decide +kernel, by decide +kernel, by decide +kernel⟩⟩
theorem mX6_isRuleForm : kYS yX6_isRuleForm cX6_isRuleForm 4 (some .boolean) 4 := ⟨kq_2_56, kq_2_55, kq_1_1, ⟨by decide +kernel, by decide +kernel, by decide +kernel⟩⟩
theorem mX6_isName : kYS yX6_isName cX6_isName 1 (some .boolean) 1 := ⟨kq_2_59, kq_2_58, kq_1_1, ⟨by decide +kernel, by decide +kernel, by decide +kernel⟩⟩
theorem mX6_isSymbol : kYS yX6_isSymbol cX6_isSymbol 1 (some .boolean) 1 := ⟨kq_2_62, kq_2_61, kq_1_1, ⟨by decide +kernel, by decide +kernel, by decide +kernel⟩⟩
theorem mX0_hasRoom : kYV yX0_hasRoom cX0_hasRoom 1 (some .boolean) 0 := ⟨kq_2_135, kq_2_133, kq_2_134, kq_1_2, ⟨by decide +kernel, by decide +kernel, by decide +kernel⟩⟩
theorem mX6_findTouchedBy : kYV yX6_findTouchedBy cX6_findTouchedBy 7 (some .int) 1 := ⟨kq_2_214, kq_2_213, kq_p_12, kq_1_1, ⟨by decide +kernel, by decide +kernel, by decide +kernel⟩⟩
theorem mX3_hasLettersOf : kYV yX3_hasLettersOf cX3_hasLettersOf 2 (some .boolean) 1 := ⟨kq_2_218, kq_2_216, kq_2_217, kq_1_3, ⟨by decide +kernel, by decide +kernel, by decide +kernel⟩⟩
theorem mX3_hasIfLetter : kYV yX3_hasIfLetter cX3_hasIfLetter 3 (some .boolean) 1 := ⟨kq_2_222, kq_2_221, kq_p_13, kq_1_3, ⟨by decide +kernel, by decide +kernel, by decide +kernel⟩⟩
theorem mL_dropRule : kYW yL_dropRule cL_dropRule 4 (some .int) [(0, 9, 12, 21)] 3 := ⟨kq_2_226, kq_2_225, kq_1_0, ⟨by decide +kernel, by decide +kernel, by decide +kernel⟩⟩
theorem mX6_dropRule : kYV yX6_dropRule cX6_dropRule 3 (some .int) 1 := ⟨kq_2_231, kq_2_229, kq_2_230, kq_1_1, ⟨by decide +kernel, by decide +kernel, by decide +kernel⟩⟩
theorem mX6_existingRule : kYV yX6_existingRule cX6_existingRule 3 (some (.object "Parserpark$Rule")) 1 := ⟨kq_2_235, kq_2_234, kq_p_14, kq_1_1, ⟨by decide +kernel, by decide +kernel, by decide +kernel⟩⟩
theorem mL_setRank : kYW yL_setRank cL_setRank 5 (some .int) [(0, 10, 13, 21), (0, 10, 17, 13)] 4 := ⟨kq_3_14, kq_3_13, kq_1_0, ⟨by decide +kernel, by decide +kernel, by decide +kernel⟩⟩
theorem mX6_setRank : kYV yX6_setRank cX6_setRank 5 (some .int) 2 := ⟨kq_3_18, kq_3_16, kq_3_17, kq_1_1, ⟨by decide +kernel, by decide +kernel, by decide +kernel⟩⟩
theorem mX6_isWithin : kYS yX6_isWithin cX6_isWithin 3 (some .boolean) 3 := ⟨kq_3_21, kq_3_20, kq_1_1, ⟨by decide +kernel, by decide +kernel, by decide +kernel⟩⟩
theorem mL_setStyle : kYW yL_setStyle cL_setStyle 6 (some .int) [(0, 12, 15, 21), (0, 12, 19, 13)] 5 := ⟨kq_3_24, kq_3_23, kq_1_0, ⟨by decide +kernel, by decide +kernel, by decide +kernel⟩⟩
theorem mX6_setStyle : kYV yX6_setStyle cX6_setStyle 6 (some .int) 3 := ⟨kq_3_28, kq_3_26, kq_3_27, kq_1_1, ⟨by decide +kernel, by decide +kernel, by decide +kernel⟩⟩
theorem mL_addText : kYW yL_addText cL_addText 4 (some .int) [(0, 9, 12, 13), (0, 9, 15, 15)] 3 := ⟨kq_3_31, kq_3_30, kq_1_0, ⟨by decide +kernel, by decide +kernel, by decide +kernel⟩⟩
theorem mX6_addText : kYV yX6_addText cX6_addText 4 (some .int) 1 := ⟨kq_3_35, kq_3_33, kq_3_34, kq_1_1, ⟨by decide +kernel, by decide +kernel, by decide +kernel⟩⟩
theorem mX3_findHaving : kYV yX3_findHaving cX3_findHaving 7 (some .int) 2 := ⟨kq_3_65, kq_3_63, kq_3_64, kq_1_3, ⟨by decide +kernel, by decide +kernel, by decide +kernel⟩⟩
theorem mJ9_min_7cf53 : kYS yJ9_min_7cf53 cJ9_min_7cf53 2 (some .int) 2 := ⟨kq_3_68, kq_3_67, kq_1_15, ⟨by decide +kernel, by decide +kernel, by decide +kernel⟩⟩
theorem mL_addLetter : kYW yL_addLetter cL_addLetter 5 (some .int) [(0, 10, 13, 37), (0, 10, 17, 13), (0, 10, 21, 15)] 4 := ⟨kq_3_72, kq_3_71, kq_1_0, ⟨by decide +kernel, by decide +kernel, by decide +kernel⟩⟩
theorem mX6_addLetter : kYV yX6_addLetter cX6_addLetter 4 (some .int) 2 := ⟨kq_3_109, kq_3_107, kq_3_108, kq_1_1, ⟨by decide +kernel, by decide +kernel, by decide +kernel⟩⟩
theorem mX6_existingText : kYV yX6_existingText cX6_existingText 3 (some (.object "Parserpark$Text")) 1 := ⟨kq_3_113, kq_3_112, kq_p_15, kq_1_1, ⟨by decide +kernel, by decide +kernel, by decide +kernel⟩⟩
theorem mL_replace : kYW yL_replace cL_replace 6 (some .int) [(0, 12, 15, 37), (0, 12, 19, 13)] 5 := ⟨kq_3_131, kq_3_130, kq_1_0, ⟨by decide +kernel, by decide +kernel, by decide +kernel⟩⟩
theorem mX6_replace : kYV yX6_replace cX6_replace 5 (some .int) 3 := ⟨kq_3_135, kq_3_133, kq_3_134, kq_1_1, ⟨by decide +kernel, by decide +kernel, by decide +kernel⟩⟩
theorem mL_length : kYW yL_length cL_length 4 (some .int) [(0, 9, 12, 37)] 3 := ⟨kq_3_142, kq_3_141, kq_1_0, ⟨by decide +kernel, by decide +kernel, by decide +kernel⟩⟩
theorem mX6_length : kYV yX6_length cX6_length 2 (some .int) 1 := ⟨kq_3_146, kq_3_144, kq_3_145, kq_1_1, ⟨by decide +kernel, by decide +kernel, by decide +kernel⟩⟩
theorem mL_letterAt : kYW yL_letterAt cL_letterAt 5 (some .int) [(0, 10, 13, 37)] 4 := ⟨kq_3_149, kq_3_148, kq_1_0, ⟨by decide +kernel, by decide +kernel, by decide +kernel⟩⟩
theorem mX6_letterAt : kYV yX6_letterAt cX6_letterAt 4 (some .int) 2 := ⟨kq_3_153, kq_3_151, kq_3_152, kq_1_1, ⟨by decide +kernel, by decide +kernel, by decide +kernel⟩⟩
theorem mL_trees : kYW yL_trees cL_trees 4 (some .int) [(0, 9, 12, 37)] 3 := ⟨kq_3_157, kq_3_156, kq_1_0, ⟨by decide +kernel, by decide +kernel, by decide +kernel⟩⟩
theorem mX6_trees : kYV yX6_trees cX6_trees 2 (some .int) 1 := ⟨kq_3_161, kq_3_159, kq_3_160, kq_1_1, ⟨by decide +kernel, by decide +kernel, by decide +kernel⟩⟩
theorem mL_treesByTrying : kYW yL_treesByTrying cL_treesByTrying 4 (some .int) [(0, 9, 12, 37), (0, 9, 15, 54)] 3 := ⟨kq_3_164, kq_3_163, kq_1_0, ⟨by decide +kernel, by decide +kernel, by decide +kernel⟩⟩
theorem mX6_treesByTrying : kYV yX6_treesByTrying cX6_treesByTrying 3 (some .int) 1 := ⟨kq_3_169, kq_3_167, kq_3_168, kq_1_1, ⟨by decide +kernel, by decide +kernel, by decide +kernel⟩⟩
theorem mL_treesOver : kYW yL_treesOver cL_treesOver 7 (some .int) [(0, 14, 17, 37), (0, 14, 21, 13)] 6 := ⟨kq_3_187, kq_3_186, kq_1_0, ⟨by decide +kernel, by decide +kernel, by decide +kernel⟩⟩
theorem mX6_treesOver : kYV yX6_treesOver cX6_treesOver 6 (some .int) 4 := ⟨kq_3_191, kq_3_189, kq_3_190, kq_1_1, ⟨by decide +kernel, by decide +kernel, by decide +kernel⟩⟩
theorem mL_size : kYW yL_size cL_size 4 (some .int) [(0, 9, 12, 37)] 3 := ⟨kq_3_195, kq_3_194, kq_1_0, ⟨by decide +kernel, by decide +kernel, by decide +kernel⟩⟩
theorem mX6_size : kYV yX6_size cX6_size 2 (some .int) 1 := ⟨kq_3_199, kq_3_197, kq_3_198, kq_1_1, ⟨by decide +kernel, by decide +kernel, by decide +kernel⟩⟩
theorem mL_ruleAt : kYW yL_ruleAt cL_ruleAt 5 (some .int) [(0, 10, 13, 37), (0, 10, 17, 21)] 4 := ⟨kq_3_206, kq_3_205, kq_1_0, ⟨by decide +kernel, by decide +kernel, by decide +kernel⟩⟩
theorem mX6_ruleAt : kYV yX6_ruleAt cX6_ruleAt 3 (some .int) 2 := ⟨kq_3_210, kq_3_208, kq_3_209, kq_1_1, ⟨by decide +kernel, by decide +kernel, by decide +kernel⟩⟩
theorem mX1_ruleNumber : kYV yX1_ruleNumber cX1_ruleNumber 2 (some .int) 1 := ⟨kq_3_214, kq_3_212, kq_3_213, kq_1_4, ⟨by decide +kernel, by decide +kernel, by decide +kernel⟩⟩
theorem mL_depth : kYW yL_depth cL_depth 4 (some .int) [(0, 9, 12, 37)] 3 := ⟨kq_3_217, kq_3_216, kq_1_0, ⟨by decide +kernel, by decide +kernel, by decide +kernel⟩⟩
theorem mX6_depth : kYV yX6_depth cX6_depth 2 (some .int) 1 := ⟨kq_3_221, kq_3_219, kq_3_220, kq_1_1, ⟨by decide +kernel, by decide +kernel, by decide +kernel⟩⟩
theorem mL_colourAt : kYW yL_colourAt cL_colourAt 5 (some .int) [(0, 10, 13, 37)] 4 := ⟨kq_3_224, kq_3_223, kq_1_0, ⟨by decide +kernel, by decide +kernel, by decide +kernel⟩⟩
theorem mX6_colourAt : kYV yX6_colourAt cX6_colourAt 4 (some .int) 2 := ⟨kq_3_228, kq_3_226, kq_3_227, kq_1_1, ⟨by decide +kernel, by decide +kernel, by decide +kernel⟩⟩
theorem mX1_colourOf : kYV yX1_colourOf cX1_colourOf 2 (some .int) 1 := ⟨kq_3_232, kq_3_230, kq_3_231, kq_1_4, ⟨by decide +kernel, by decide +kernel, by decide +kernel⟩⟩
theorem mL_formatted : kYW yL_formatted cL_formatted 4 (some .int) [(0, 9, 12, 37)] 3 := ⟨kq_3_235, kq_3_234, kq_1_0, ⟨by decide +kernel, by decide +kernel, by decide +kernel⟩⟩
theorem mX6_formatted : kYV yX6_formatted cX6_formatted 2 (some .int) 1 := ⟨kq_3_239, kq_3_237, kq_3_238, kq_1_1, ⟨by decide +kernel, by decide +kernel, by decide +kernel⟩⟩
theorem mX1_countSigns : kYV yX1_countSigns cX1_countSigns 6 (some .int) 0 := ⟨kq_4_3, kq_4_1, kq_4_2, kq_1_4, ⟨by decide +kernel, by decide +kernel, by decide +kernel⟩⟩
theorem mL_formattedAt : kYW yL_formattedAt cL_formattedAt 5 (some .int) [(0, 10, 13, 37), (0, 10, 17, 21)] 4 := ⟨kq_4_6, kq_4_5, kq_1_0, ⟨by decide +kernel, by decide +kernel, by decide +kernel⟩⟩
theorem mX6_formattedAt : kYV yX6_formattedAt cX6_formattedAt 4 (some .char) 2 := ⟨kq_4_10, kq_4_8, kq_4_9, kq_1_1, ⟨by decide +kernel, by decide +kernel, by decide +kernel⟩⟩
theorem mX1_sign : kYV yX1_sign cX1_sign 5 (some .char) 2 := ⟨kq_4_14, kq_4_12, kq_4_13, kq_1_4, ⟨by decide +kernel, by decide +kernel, by decide +kernel⟩⟩
theorem mL_accept : kYW yL_accept cL_accept 4 (some .int) [(0, 9, 12, 37), (0, 9, 15, 15)] 3 := ⟨kq_4_18, kq_4_17, kq_1_0, ⟨by decide +kernel, by decide +kernel, by decide +kernel⟩⟩
theorem mX6_accept : kYV yX6_accept cX6_accept 3 (some .int) 1 := ⟨kq_4_22, kq_4_20, kq_4_21, kq_1_1, ⟨by decide +kernel, by decide +kernel, by decide +kernel⟩⟩
theorem mL_fault : kYW yL_fault cL_fault 4 (some .int) [(0, 9, 12, 37)] 3 := ⟨kq_4_31, kq_4_30, kq_1_0, ⟨by decide +kernel, by decide +kernel, by decide +kernel⟩⟩
theorem mX6_fault : kYV yX6_fault cX6_fault 2 (some .char) 1 := ⟨kq_4_35, kq_4_33, kq_4_34, kq_1_1, ⟨by decide +kernel, by decide +kernel, by decide +kernel⟩⟩
theorem mX6_faultOf : kYV yX6_faultOf cX6_faultOf 3 (some .char) 1 := ⟨kq_4_39, kq_4_38, kq_p_17, kq_1_1, ⟨by decide +kernel, by decide +kernel, by decide +kernel⟩⟩
theorem mX4_hasAccepted : kYV yX4_hasAccepted cX4_hasAccepted 3 (some .boolean) 1 := ⟨kq_4_43, kq_4_41, kq_4_42, kq_1_14, ⟨by decide +kernel, by decide +kernel, by decide +kernel⟩⟩
theorem mL_release : kYW yL_release cL_release 3 (some .int) [(0, 8, 11, 15), (0, 8, 14, 54)] 2 := ⟨kq_4_46, kq_4_45, kq_1_0, ⟨by decide +kernel, by decide +kernel, by decide +kernel⟩⟩
theorem mX6_release : kYV yX6_release cX6_release 1 (some .int) 0 := ⟨kq_4_50, kq_4_48, kq_4_49, kq_1_1, ⟨by decide +kernel, by decide +kernel, by decide +kernel⟩⟩
theorem mX6_countClean : kYV yX6_countClean cX6_countClean 6 (some .int) 0 := ⟨kq_4_54, kq_4_53, kq_p_18, kq_1_1, ⟨by decide +kernel, by decide +kernel, by decide +kernel⟩⟩
theorem mL_ambiguous : kYW yL_ambiguous cL_ambiguous 5 (some .int) [(0, 10, 13, 13), (0, 10, 17, 21)] 4 := ⟨kq_4_57, kq_4_56, kq_1_0, ⟨by decide +kernel, by decide +kernel, by decide +kernel⟩⟩
theorem mX6_ambiguous : kYV yX6_ambiguous cX6_ambiguous 3 (some .int) 2 := ⟨kq_4_61, kq_4_59, kq_4_60, kq_1_1, ⟨by decide +kernel, by decide +kernel, by decide +kernel⟩⟩
theorem mX6_lengthOfAmbiguousRow : kYV yX6_lengthOfAmbiguousRow cX6_lengthOfAmbiguousRow 4 (some .int) 2 := ⟨kq_4_65, kq_4_64, kq_p_19, kq_1_1, ⟨by decide +kernel, by decide +kernel, by decide +kernel⟩⟩
theorem mX6_findAmbiguousRow : kYV yX6_findAmbiguousRow cX6_findAmbiguousRow 4 (some .boolean) 2 := ⟨kq_4_69, kq_4_68, kq_p_20, kq_1_1, ⟨by decide +kernel, by decide +kernel, by decide +kernel⟩⟩
theorem mX3_nextRow : kYV yX3_nextRow cX3_nextRow 4 (some .boolean) 1 := ⟨kq_4_78, kq_4_76, kq_4_77, kq_1_3, ⟨by decide +kernel, by decide +kernel, by decide +kernel⟩⟩
theorem mL_ambiguousAt : kYW yL_ambiguousAt cL_ambiguousAt 6 (some .int) [(0, 12, 15, 13), (0, 12, 19, 21)] 5 := ⟨kq_4_81, kq_4_80, kq_1_0, ⟨by decide +kernel, by decide +kernel, by decide +kernel⟩⟩
theorem mX6_ambiguousAt : kYV yX6_ambiguousAt cX6_ambiguousAt 5 (some .int) 3 := ⟨kq_4_85, kq_4_83, kq_4_84, kq_1_1, ⟨by decide +kernel, by decide +kernel, by decide +kernel⟩⟩
theorem mL_cleanShare : kYW yL_cleanShare cL_cleanShare 3 (some .int) [(0, 8, 11, 99)] 2 := ⟨kq_4_88, kq_4_87, kq_1_0, ⟨by decide +kernel, by decide +kernel, by decide +kernel⟩⟩
theorem mX6_cleanShare : kYV yX6_cleanShare cX6_cleanShare 1 (some .float) 0 := ⟨kq_4_106, kq_4_104, kq_4_105, kq_1_1, ⟨by decide +kernel, by decide +kernel, by decide +kernel⟩⟩
theorem mL_meanTrees : kYW yL_meanTrees cL_meanTrees 3 (some .int) [(0, 7, 10, 99)] 2 := ⟨kq_4_114, kq_4_113, kq_1_0, ⟨by decide +kernel, by decide +kernel, by decide +kernel⟩⟩
theorem mX6_meanTrees : kYV yX6_meanTrees cX6_meanTrees 6 (some .double) 0 := ⟨kq_4_118, kq_4_116, kq_4_117, kq_1_1, ⟨by decide +kernel, by decide +kernel, by decide +kernel⟩⟩
theorem mX7_thrown : kYV yX7_thrown cX7_thrown 1 (some .int) 0 := ⟨kq_4_206, kq_4_204, kq_4_205, kq_1_6, ⟨by decide +kernel, by decide +kernel, by decide +kernel⟩⟩
theorem mX7_addRule : kYV yX7_addRule cX7_addRule 6 (some .int) 4 := ⟨kq_4_210, kq_4_208, kq_4_209, kq_1_6, ⟨by decide +kernel, by decide +kernel, by decide +kernel⟩⟩
theorem mX7_isName : kYS yX7_isName cX7_isName 1 (some .boolean) 1 := ⟨kq_4_213, kq_4_212, kq_1_6, ⟨by decide +kernel, by decide +kernel, by decide +kernel⟩⟩
theorem mX7_in : kYS yX7_in cX7_in 6 (some .boolean) 3 := ⟨kq_4_218, kq_4_217, kq_1_6, ⟨by decide +kernel, by decide +kernel, by decide +kernel⟩⟩
theorem mX7_isSymbol : kYS yX7_isSymbol cX7_isSymbol 1 (some .boolean) 1 := ⟨kq_4_221, kq_4_220, kq_1_6, ⟨by decide +kernel, by decide +kernel, by decide +kernel⟩⟩
theorem mX7_isLetter : kYS yX7_isLetter cX7_isLetter 1 (some .boolean) 1 := ⟨kq_4_224, kq_4_223, kq_1_6, ⟨by decide +kernel, by decide +kernel, by decide +kernel⟩⟩
theorem mX7_touched : kYV yX7_touched cX7_touched 9 (some .int) 1 := ⟨kq_4_229, kq_4_228, kq_p_21, kq_1_6, ⟨by decide +kernel, by decide +kernel, by decide +kernel⟩⟩
theorem mX7_dropRule : kYV yX7_dropRule cX7_dropRule 2 (some .int) 1 := ⟨kq_4_233, kq_4_231, kq_4_232, kq_1_6, ⟨by decide +kernel, by decide +kernel, by decide +kernel⟩⟩
theorem mX7_isRule : kYV yX7_isRule cX7_isRule 2 (some .boolean) 1 := ⟨kq_4_237, kq_4_236, kq_p_22, kq_1_6, ⟨by decide +kernel, by decide +kernel, by decide +kernel⟩⟩
theorem mX7_setRank : kYV yX7_setRank cX7_setRank 4 (some .int) 2 := ⟨kq_5_1, kq_4_239, kq_5_0, kq_1_6, ⟨by decide +kernel, by decide +kernel, by decide +kernel⟩⟩
theorem mX7_setStyle : kYV yX7_setStyle cX7_setStyle 5 (some .int) 3 := ⟨kq_5_6, kq_5_4, kq_5_5, kq_1_6, ⟨by decide +kernel, by decide +kernel, by decide +kernel⟩⟩
theorem mX7_rules : kYV yX7_rules cX7_rules 3 (some .int) 0 := ⟨kq_5_11, kq_5_9, kq_5_10, kq_1_6, ⟨by decide +kernel, by decide +kernel, by decide +kernel⟩⟩
theorem mX7_addText : kYV yX7_addText cX7_addText 2 (some .int) 1 := ⟨kq_5_15, kq_5_13, kq_5_14, kq_1_6, ⟨by decide +kernel, by decide +kernel, by decide +kernel⟩⟩
theorem mX7_addLetter : kYV yX7_addLetter cX7_addLetter 3 (some .int) 2 := ⟨kq_5_19, kq_5_17, kq_5_18, kq_1_6, ⟨by decide +kernel, by decide +kernel, by decide +kernel⟩⟩
theorem mX7_isText : kYV yX7_isText cX7_isText 2 (some .boolean) 1 := ⟨kq_5_23, kq_5_22, kq_p_23, kq_1_6, ⟨by decide +kernel, by decide +kernel, by decide +kernel⟩⟩
theorem mX7_laysText : kYV yX7_laysText cX7_laysText 3 (some .int) 1 := ⟨kq_5_27, kq_5_26, kq_p_24, kq_1_6, ⟨by decide +kernel, by decide +kernel, by decide +kernel⟩⟩
theorem mX7_ways : kYV yX7_ways cX7_ways 7 (some .int) 3 := ⟨kq_5_35, kq_5_34, kq_p_26, kq_1_6, ⟨by decide +kernel, by decide +kernel, by decide +kernel⟩⟩
theorem mX7_part : kYV yX7_part cX7_part 4 (some .int) 3 := ⟨kq_5_39, kq_5_38, kq_p_27, kq_1_6, ⟨by decide +kernel, by decide +kernel, by decide +kernel⟩⟩
theorem mX7_twoParts : kYV yX7_twoParts cX7_twoParts 7 (some .int) 4 := ⟨kq_5_43, kq_5_42, kq_p_28, kq_1_6, ⟨by decide +kernel, by decide +kernel, by decide +kernel⟩⟩
theorem mX7_held : kYS yX7_held cX7_held 1 (some .int) 1 := ⟨kq_5_46, kq_5_45, kq_1_6, ⟨by decide +kernel, by decide +kernel, by decide +kernel⟩⟩
theorem mX7_replace : kYV yX7_replace cX7_replace 4 (some .int) 3 := ⟨kq_5_50, kq_5_48, kq_5_49, kq_1_6, ⟨by decide +kernel, by decide +kernel, by decide +kernel⟩⟩
theorem mX7_isPlace : kYV yX7_isPlace cX7_isPlace 3 (some .boolean) 2 := ⟨kq_5_54, kq_5_53, kq_p_29, kq_1_6, ⟨by decide +kernel, by decide +kernel, by decide +kernel⟩⟩
theorem mX7_length : kYV yX7_length cX7_length 2 (some .int) 1 := ⟨kq_5_58, kq_5_56, kq_5_57, kq_1_6, ⟨by decide +kernel, by decide +kernel, by decide +kernel⟩⟩
theorem mX7_asks : kYV yX7_asks cX7_asks 2 (some .boolean) 1 := ⟨kq_5_62, kq_5_61, kq_p_30, kq_1_6, ⟨by decide +kernel, by decide +kernel, by decide +kernel⟩⟩
theorem mX7_letterAt : kYV yX7_letterAt cX7_letterAt 3 (some .int) 2 := ⟨kq_5_66, kq_5_64, kq_5_65, kq_1_6, ⟨by decide +kernel, by decide +kernel, by decide +kernel⟩⟩
theorem mX7_trees : kYV yX7_trees cX7_trees 2 (some .int) 1 := ⟨kq_5_70, kq_5_68, kq_5_69, kq_1_6, ⟨by decide +kernel, by decide +kernel, by decide +kernel⟩⟩
theorem mX7_treesByTrying : kYV yX7_treesByTrying cX7_treesByTrying 2 (some .int) 1 := ⟨kq_5_74, kq_5_72, kq_5_73, kq_1_6, ⟨by decide +kernel, by decide +kernel, by decide +kernel⟩⟩
theorem mX7_treesOver : kYV yX7_treesOver cX7_treesOver 6 (some .int) 4 := ⟨kq_5_78, kq_5_76, kq_5_77, kq_1_6, ⟨by decide +kernel, by decide +kernel, by decide +kernel⟩⟩
theorem mX7_size : kYV yX7_size cX7_size 2 (some .int) 1 := ⟨kq_5_82, kq_5_80, kq_5_81, kq_1_6, ⟨by decide +kernel, by decide +kernel, by decide +kernel⟩⟩
theorem mX7_walksText : kYV yX7_walksText cX7_walksText 4 (some .int) 1 := ⟨kq_5_86, kq_5_85, kq_p_31, kq_1_6, ⟨by decide +kernel, by decide +kernel, by decide +kernel⟩⟩
theorem mX7_chosen : kYV yX7_chosen cX7_chosen 7 (some .int) 3 := ⟨kq_5_94, kq_5_93, kq_p_33, kq_1_6, ⟨by decide +kernel, by decide +kernel, by decide +kernel⟩⟩
theorem mX7_cut : kYV yX7_cut cX7_cut 6 (some .int) 4 := ⟨kq_5_102, kq_5_101, kq_p_35, kq_1_6, ⟨by decide +kernel, by decide +kernel, by decide +kernel⟩⟩
theorem mX7_ruleAt : kYV yX7_ruleAt cX7_ruleAt 3 (some .int) 2 := ⟨kq_5_110, kq_5_108, kq_5_109, kq_1_6, ⟨by decide +kernel, by decide +kernel, by decide +kernel⟩⟩
theorem mX7_depth : kYV yX7_depth cX7_depth 2 (some .int) 1 := ⟨kq_5_114, kq_5_112, kq_5_113, kq_1_6, ⟨by decide +kernel, by decide +kernel, by decide +kernel⟩⟩
theorem mX7_colourAt : kYV yX7_colourAt cX7_colourAt 3 (some .int) 2 := ⟨kq_5_118, kq_5_116, kq_5_117, kq_1_6, ⟨by decide +kernel, by decide +kernel, by decide +kernel⟩⟩
theorem mX7_formatted : kYV yX7_formatted cX7_formatted 2 (some .int) 1 := ⟨kq_5_122, kq_5_120, kq_5_121, kq_1_6, ⟨by decide +kernel, by decide +kernel, by decide +kernel⟩⟩
theorem mX7_formattedAt : kYV yX7_formattedAt cX7_formattedAt 3 (some .char) 2 := ⟨kq_5_126, kq_5_124, kq_5_125, kq_1_6, ⟨by decide +kernel, by decide +kernel, by decide +kernel⟩⟩
theorem mX7_accept : kYV yX7_accept cX7_accept 3 (some .int) 1 := ⟨kq_5_130, kq_5_128, kq_5_129, kq_1_6, ⟨by decide +kernel, by decide +kernel, by decide +kernel⟩⟩
theorem mX7_fault : kYV yX7_fault cX7_fault 2 (some .char) 1 := ⟨kq_5_134, kq_5_132, kq_5_133, kq_1_6, ⟨by decide +kernel, by decide +kernel, by decide +kernel⟩⟩
theorem mX7_faultOf : kYV yX7_faultOf cX7_faultOf 5 (some .char) 1 := ⟨kq_5_138, kq_5_137, kq_p_37, kq_1_6, ⟨by decide +kernel, by decide +kernel, by decide +kernel⟩⟩
theorem mX7_release : kYV yX7_release cX7_release 1 (some .int) 0 := ⟨kq_5_142, kq_5_140, kq_5_141, kq_1_6, ⟨by decide +kernel, by decide +kernel, by decide +kernel⟩⟩
theorem mX7_clean : kYV yX7_clean cX7_clean 3 (some .int) 0 := ⟨kq_5_146, kq_5_145, kq_p_38, kq_1_6, ⟨by decide +kernel, by decide +kernel, by decide +kernel⟩⟩
theorem mX7_ambiguous : kYV yX7_ambiguous cX7_ambiguous 3 (some .int) 2 := ⟨kq_5_150, kq_5_148, kq_5_149, kq_1_6, ⟨by decide +kernel, by decide +kernel, by decide +kernel⟩⟩
theorem mX7_asksRow : kYV yX7_asksRow cX7_asksRow 4 (some .boolean) 2 := ⟨kq_5_154, kq_5_153, kq_p_39, kq_1_6, ⟨by decide +kernel, by decide +kernel, by decide +kernel⟩⟩
theorem mX7_finds : kYV yX7_finds cX7_finds 7 (some .boolean) 2 := ⟨kq_5_159, kq_5_158, kq_p_40, kq_1_6, ⟨by decide +kernel, by decide +kernel, by decide +kernel⟩⟩
theorem mX7_ambiguousAt : kYV yX7_ambiguousAt cX7_ambiguousAt 4 (some .int) 3 := ⟨kq_5_163, kq_5_161, kq_5_162, kq_1_6, ⟨by decide +kernel, by decide +kernel, by decide +kernel⟩⟩
theorem mX7_work : kYV yX7_work cX7_work 1 (some .long) 0 := ⟨kq_5_167, kq_5_165, kq_5_166, kq_1_6, ⟨by decide +kernel, by decide +kernel, by decide +kernel⟩⟩
theorem mX7_cleanShare : kYV yX7_cleanShare cX7_cleanShare 1 (some .float) 0 := ⟨kq_5_171, kq_5_169, kq_5_170, kq_1_6, ⟨by decide +kernel, by decide +kernel, by decide +kernel⟩⟩
theorem mX7_meanTrees : kYV yX7_meanTrees cX7_meanTrees 3 (some .double) 0 := ⟨kq_5_175, kq_5_173, kq_5_174, kq_1_6, ⟨by decide +kernel, by decide +kernel, by decide +kernel⟩⟩
theorem mX7_isSound : kYV yX7_isSound cX7_isSound 1 (some .boolean) 0 := ⟨kq_5_179, kq_5_177, kq_5_178, kq_1_6, ⟨by decide +kernel, by decide +kernel, by decide +kernel⟩⟩
end
section
theorem dX0_init_0 : decode cX0_init 0 = .ok (.aload_n 0, 1) := by decide +kernel
theorem dX0_init_1 : decode cX0_init 1 = .ok (.invokespecial 3, 3) := by decide +kernel
theorem dX0_init_4 : decode cX0_init 4 = .ok (.aload_n 0, 1) := by decide +kernel
theorem dX0_init_5 : decode cX0_init 5 = .ok (.bipush 12, 2) := by decide +kernel
theorem dX0_init_7 : decode cX0_init 7 = .ok (.anewarray 9, 3) := by decide +kernel
theorem dX0_init_10 : decode cX0_init 10 = .ok (.putfield 11, 3) := by decide +kernel
theorem dX0_init_13 : decode cX0_init 13 = .ok (.aload_n 0, 1) := by decide +kernel
theorem dX0_init_14 : decode cX0_init 14 = .ok (.iconst 0, 1) := by decide +kernel
theorem dX0_init_15 : decode cX0_init 15 = .ok (.putfield 17, 3) := by decide +kernel
theorem dX0_init_18 : decode cX0_init 18 = .ok (.return_, 1) := by decide +kernel
theorem dX0_hasRoom_0 : decode cX0_hasRoom 0 = .ok (.aload_n 0, 1) := by decide +kernel
theorem dX0_hasRoom_1 : decode cX0_hasRoom 1 = .ok (.getfield 17, 3) := by decide +kernel
theorem dX0_hasRoom_4 : decode cX0_hasRoom 4 = .ok (.aload_n 0, 1) := by decide +kernel
theorem dX0_hasRoom_5 : decode cX0_hasRoom 5 = .ok (.getfield 11, 3) := by decide +kernel
theorem dX0_hasRoom_8 : decode cX0_hasRoom 8 = .ok (.arraylength, 1) := by decide +kernel
theorem dX0_hasRoom_9 : decode cX0_hasRoom 9 = .ok (.if_icmp .ge 7, 3) := by decide +kernel
theorem dX0_hasRoom_12 : decode cX0_hasRoom 12 = .ok (.iconst 1, 1) := by decide +kernel
theorem dX0_hasRoom_13 : decode cX0_hasRoom 13 = .ok (.goto 4, 3) := by decide +kernel
theorem dX0_hasRoom_16 : decode cX0_hasRoom 16 = .ok (.iconst 0, 1) := by decide +kernel
theorem dX0_hasRoom_17 : decode cX0_hasRoom 17 = .ok (.ireturn, 1) := by decide +kernel
theorem dX0_put_0 : decode cX0_put 0 = .ok (.aload_n 0, 1) := by decide +kernel
theorem dX0_put_1 : decode cX0_put 1 = .ok (.getfield 17, 3) := by decide +kernel
theorem dX0_put_4 : decode cX0_put 4 = .ok (.ifCond .lt 35, 3) := by decide +kernel
theorem dX0_put_7 : decode cX0_put 7 = .ok (.aload_n 0, 1) := by decide +kernel
theorem dX0_put_8 : decode cX0_put 8 = .ok (.getfield 17, 3) := by decide +kernel
theorem dX0_put_11 : decode cX0_put 11 = .ok (.aload_n 0, 1) := by decide +kernel
theorem dX0_put_12 : decode cX0_put 12 = .ok (.getfield 11, 3) := by decide +kernel
theorem dX0_put_15 : decode cX0_put 15 = .ok (.arraylength, 1) := by decide +kernel
theorem dX0_put_16 : decode cX0_put 16 = .ok (.if_icmp .ge 23, 3) := by decide +kernel
theorem dX0_put_19 : decode cX0_put 19 = .ok (.aload_n 0, 1) := by decide +kernel
theorem dX0_put_20 : decode cX0_put 20 = .ok (.getfield 11, 3) := by decide +kernel
theorem dX0_put_23 : decode cX0_put 23 = .ok (.aload_n 0, 1) := by decide +kernel
theorem dX0_put_24 : decode cX0_put 24 = .ok (.getfield 17, 3) := by decide +kernel
theorem dX0_put_27 : decode cX0_put 27 = .ok (.aload_n 1, 1) := by decide +kernel
theorem dX0_put_28 : decode cX0_put 28 = .ok (.aastore, 1) := by decide +kernel
theorem dX0_put_29 : decode cX0_put 29 = .ok (.aload_n 0, 1) := by decide +kernel
theorem dX0_put_30 : decode cX0_put 30 = .ok (.dup, 1) := by decide +kernel
theorem dX0_put_31 : decode cX0_put 31 = .ok (.getfield 17, 3) := by decide +kernel
theorem dX0_put_34 : decode cX0_put 34 = .ok (.iconst 1, 1) := by decide +kernel
theorem dX0_put_35 : decode cX0_put 35 = .ok (.iadd, 1) := by decide +kernel
theorem dX0_put_36 : decode cX0_put 36 = .ok (.putfield 17, 3) := by decide +kernel
theorem dX0_put_39 : decode cX0_put 39 = .ok (.return_, 1) := by decide +kernel
theorem dX0_liveRule_0 : decode cX0_liveRule 0 = .ok (.iload_n 1, 1) := by decide +kernel
theorem dX0_liveRule_1 : decode cX0_liveRule 1 = .ok (.ifCond .lt 12, 3) := by decide +kernel
theorem dX0_liveRule_4 : decode cX0_liveRule 4 = .ok (.iload_n 1, 1) := by decide +kernel
theorem dX0_liveRule_5 : decode cX0_liveRule 5 = .ok (.aload_n 0, 1) := by decide +kernel
theorem dX0_liveRule_6 : decode cX0_liveRule 6 = .ok (.getfield 11, 3) := by decide +kernel
theorem dX0_liveRule_9 : decode cX0_liveRule 9 = .ok (.arraylength, 1) := by decide +kernel
theorem dX0_liveRule_10 : decode cX0_liveRule 10 = .ok (.if_icmp .lt 5, 3) := by decide +kernel
theorem dX0_liveRule_13 : decode cX0_liveRule 13 = .ok (.aconst_null, 1) := by decide +kernel
theorem dX0_liveRule_14 : decode cX0_liveRule 14 = .ok (.areturn, 1) := by decide +kernel
theorem dX0_liveRule_15 : decode cX0_liveRule 15 = .ok (.aload_n 0, 1) := by decide +kernel
theorem dX0_liveRule_16 : decode cX0_liveRule 16 = .ok (.getfield 11, 3) := by decide +kernel
theorem dX0_liveRule_19 : decode cX0_liveRule 19 = .ok (.iload_n 1, 1) := by decide +kernel
theorem dX0_liveRule_20 : decode cX0_liveRule 20 = .ok (.aaload, 1) := by decide +kernel
theorem dX0_liveRule_21 : decode cX0_liveRule 21 = .ok (.astore_n 2, 1) := by decide +kernel
theorem dX0_liveRule_22 : decode cX0_liveRule 22 = .ok (.aload_n 2, 1) := by decide +kernel
theorem dX0_liveRule_23 : decode cX0_liveRule 23 = .ok (.ifnull 10, 3) := by decide +kernel
theorem dX0_liveRule_26 : decode cX0_liveRule 26 = .ok (.aload_n 2, 1) := by decide +kernel
theorem dX0_liveRule_27 : decode cX0_liveRule 27 = .ok (.getfield 21, 3) := by decide +kernel
theorem dX0_liveRule_30 : decode cX0_liveRule 30 = .ok (.ifCond .eq 7, 3) := by decide +kernel
theorem dX0_liveRule_33 : decode cX0_liveRule 33 = .ok (.aconst_null, 1) := by decide +kernel
theorem dX0_liveRule_34 : decode cX0_liveRule 34 = .ok (.goto 4, 3) := by decide +kernel
theorem dX0_liveRule_37 : decode cX0_liveRule 37 = .ok (.aload_n 2, 1) := by decide +kernel
theorem dX0_liveRule_38 : decode cX0_liveRule 38 = .ok (.areturn, 1) := by decide +kernel
theorem dX0_countLive_0 : decode cX0_countLive 0 = .ok (.iconst 0, 1) := by decide +kernel
theorem dX0_countLive_1 : decode cX0_countLive 1 = .ok (.istore_n 1, 1) := by decide +kernel
theorem dX0_countLive_2 : decode cX0_countLive 2 = .ok (.iconst 0, 1) := by decide +kernel
theorem dX0_countLive_3 : decode cX0_countLive 3 = .ok (.istore_n 2, 1) := by decide +kernel
theorem dX0_countLive_4 : decode cX0_countLive 4 = .ok (.iload_n 2, 1) := by decide +kernel
theorem dX0_countLive_5 : decode cX0_countLive 5 = .ok (.aload_n 0, 1) := by decide +kernel
theorem dX0_countLive_6 : decode cX0_countLive 6 = .ok (.getfield 17, 3) := by decide +kernel
theorem dX0_countLive_9 : decode cX0_countLive 9 = .ok (.if_icmp .ge 20, 3) := by decide +kernel
theorem dX0_countLive_12 : decode cX0_countLive 12 = .ok (.aload_n 0, 1) := by decide +kernel
theorem dX0_countLive_13 : decode cX0_countLive 13 = .ok (.iload_n 2, 1) := by decide +kernel
theorem dX0_countLive_14 : decode cX0_countLive 14 = .ok (.invokevirtual 25, 3) := by decide +kernel
theorem dX0_countLive_17 : decode cX0_countLive 17 = .ok (.ifnull 6, 3) := by decide +kernel
theorem dX0_countLive_20 : decode cX0_countLive 20 = .ok (.iinc 1 1, 3) := by decide +kernel
theorem dX0_countLive_23 : decode cX0_countLive 23 = .ok (.iinc 2 1, 3) := by decide +kernel
theorem dX0_countLive_26 : decode cX0_countLive 26 = .ok (.goto (-22), 3) := by decide +kernel
theorem dX0_countLive_29 : decode cX0_countLive 29 = .ok (.iload_n 1, 1) := by decide +kernel
theorem dX0_countLive_30 : decode cX0_countLive 30 = .ok (.ireturn, 1) := by decide +kernel
theorem dX0_chosenRule_0 : decode cX0_chosenRule 0 = .ok (.aconst_null, 1) := by decide +kernel
theorem dX0_chosenRule_1 : decode cX0_chosenRule 1 = .ok (.astore 5, 2) := by decide +kernel
theorem dX0_chosenRule_3 : decode cX0_chosenRule 3 = .ok (.iconst 0, 1) := by decide +kernel
theorem dX0_chosenRule_4 : decode cX0_chosenRule 4 = .ok (.istore 6, 2) := by decide +kernel
theorem dX0_chosenRule_6 : decode cX0_chosenRule 6 = .ok (.iload 6, 2) := by decide +kernel
theorem dX0_chosenRule_8 : decode cX0_chosenRule 8 = .ok (.aload_n 0, 1) := by decide +kernel
theorem dX0_chosenRule_9 : decode cX0_chosenRule 9 = .ok (.getfield 17, 3) := by decide +kernel
theorem dX0_chosenRule_12 : decode cX0_chosenRule 12 = .ok (.if_icmp .ge 81, 3) := by decide +kernel
theorem dX0_chosenRule_15 : decode cX0_chosenRule 15 = .ok (.aload_n 0, 1) := by decide +kernel
theorem dX0_chosenRule_16 : decode cX0_chosenRule 16 = .ok (.iload 6, 2) := by decide +kernel
theorem dX0_chosenRule_18 : decode cX0_chosenRule 18 = .ok (.invokevirtual 25, 3) := by decide +kernel
theorem dX0_chosenRule_21 : decode cX0_chosenRule 21 = .ok (.astore 7, 2) := by decide +kernel
theorem dX0_chosenRule_23 : decode cX0_chosenRule 23 = .ok (.aload 7, 2) := by decide +kernel
theorem dX0_chosenRule_25 : decode cX0_chosenRule 25 = .ok (.ifnull 62, 3) := by decide +kernel
theorem dX0_chosenRule_28 : decode cX0_chosenRule 28 = .ok (.aload 7, 2) := by decide +kernel
theorem dX0_chosenRule_30 : decode cX0_chosenRule 30 = .ok (.getfield 29, 3) := by decide +kernel
theorem dX0_chosenRule_33 : decode cX0_chosenRule 33 = .ok (.iload_n 2, 1) := by decide +kernel
theorem dX0_chosenRule_34 : decode cX0_chosenRule 34 = .ok (.if_icmp .eq 6, 3) := by decide +kernel
theorem dX0_chosenRule_37 : decode cX0_chosenRule 37 = .ok (.goto 50, 3) := by decide +kernel
theorem dX0_chosenRule_40 : decode cX0_chosenRule 40 = .ok (.aload 5, 2) := by decide +kernel
theorem dX0_chosenRule_42 : decode cX0_chosenRule 42 = .ok (.ifnull 16, 3) := by decide +kernel
theorem dX0_chosenRule_45 : decode cX0_chosenRule 45 = .ok (.aload 7, 2) := by decide +kernel
theorem dX0_chosenRule_47 : decode cX0_chosenRule 47 = .ok (.getfield 32, 3) := by decide +kernel
theorem dX0_chosenRule_50 : decode cX0_chosenRule 50 = .ok (.aload 5, 2) := by decide +kernel
theorem dX0_chosenRule_52 : decode cX0_chosenRule 52 = .ok (.getfield 32, 3) := by decide +kernel
theorem dX0_chosenRule_55 : decode cX0_chosenRule 55 = .ok (.if_icmp .le 7, 3) := by decide +kernel
theorem dX0_chosenRule_58 : decode cX0_chosenRule 58 = .ok (.iconst 1, 1) := by decide +kernel
theorem dX0_chosenRule_59 : decode cX0_chosenRule 59 = .ok (.goto 4, 3) := by decide +kernel
theorem dX0_chosenRule_62 : decode cX0_chosenRule 62 = .ok (.iconst 0, 1) := by decide +kernel
theorem dX0_chosenRule_63 : decode cX0_chosenRule 63 = .ok (.istore 8, 2) := by decide +kernel
theorem dX0_chosenRule_65 : decode cX0_chosenRule 65 = .ok (.iload 8, 2) := by decide +kernel
theorem dX0_chosenRule_67 : decode cX0_chosenRule 67 = .ok (.ifCond .eq 20, 3) := by decide +kernel
theorem dX0_chosenRule_70 : decode cX0_chosenRule 70 = .ok (.aload_n 1, 1) := by decide +kernel
theorem dX0_chosenRule_71 : decode cX0_chosenRule 71 = .ok (.aload 7, 2) := by decide +kernel
theorem dX0_chosenRule_73 : decode cX0_chosenRule 73 = .ok (.iload_n 3, 1) := by decide +kernel
theorem dX0_chosenRule_74 : decode cX0_chosenRule 74 = .ok (.iload 4, 2) := by decide +kernel
theorem dX0_chosenRule_76 : decode cX0_chosenRule 76 = .ok (.invokevirtual 35, 3) := by decide +kernel
theorem dX0_chosenRule_79 : decode cX0_chosenRule 79 = .ok (.iconst (-1), 1) := by decide +kernel
theorem dX0_chosenRule_80 : decode cX0_chosenRule 80 = .ok (.if_icmp .eq 7, 3) := by decide +kernel
theorem dX0_chosenRule_83 : decode cX0_chosenRule 83 = .ok (.aload 7, 2) := by decide +kernel
theorem dX0_chosenRule_85 : decode cX0_chosenRule 85 = .ok (.astore 5, 2) := by decide +kernel
theorem dX0_chosenRule_87 : decode cX0_chosenRule 87 = .ok (.iinc 6 1, 3) := by decide +kernel
theorem dX0_chosenRule_90 : decode cX0_chosenRule 90 = .ok (.goto (-84), 3) := by decide +kernel
theorem dX0_chosenRule_93 : decode cX0_chosenRule 93 = .ok (.aload 5, 2) := by decide +kernel
theorem dX0_chosenRule_95 : decode cX0_chosenRule 95 = .ok (.areturn, 1) := by decide +kernel
theorem dX1_init_0 : decode cX1_init 0 = .ok (.aload_n 0, 1) := by decide +kernel
theorem dX1_init_1 : decode cX1_init 1 = .ok (.invokespecial 3, 3) := by decide +kernel
theorem dX1_init_4 : decode cX1_init 4 = .ok (.aload_n 0, 1) := by decide +kernel
theorem dX1_init_5 : decode cX1_init 5 = .ok (.bipush 95, 2) := by decide +kernel
theorem dX1_init_7 : decode cX1_init 7 = .ok (.newarray .int, 2) := by decide +kernel
theorem dX1_init_9 : decode cX1_init 9 = .ok (.putfield 9, 3) := by decide +kernel
theorem dX1_init_12 : decode cX1_init 12 = .ok (.aload_n 0, 1) := by decide +kernel
theorem dX1_init_13 : decode cX1_init 13 = .ok (.bipush 10, 2) := by decide +kernel
theorem dX1_init_15 : decode cX1_init 15 = .ok (.newarray .int, 2) := by decide +kernel
theorem dX1_init_17 : decode cX1_init 17 = .ok (.putfield 15, 3) := by decide +kernel
theorem dX1_init_20 : decode cX1_init 20 = .ok (.aload_n 0, 1) := by decide +kernel
theorem dX1_init_21 : decode cX1_init 21 = .ok (.bipush 10, 2) := by decide +kernel
theorem dX1_init_23 : decode cX1_init 23 = .ok (.newarray .int, 2) := by decide +kernel
theorem dX1_init_25 : decode cX1_init 25 = .ok (.putfield 18, 3) := by decide +kernel
theorem dX1_init_28 : decode cX1_init 28 = .ok (.aload_n 0, 1) := by decide +kernel
theorem dX1_init_29 : decode cX1_init 29 = .ok (.bipush 10, 2) := by decide +kernel
theorem dX1_init_31 : decode cX1_init 31 = .ok (.newarray .int, 2) := by decide +kernel
theorem dX1_init_33 : decode cX1_init 33 = .ok (.putfield 21, 3) := by decide +kernel
theorem dX1_init_36 : decode cX1_init 36 = .ok (.aload_n 0, 1) := by decide +kernel
theorem dX1_init_37 : decode cX1_init 37 = .ok (.bipush 10, 2) := by decide +kernel
theorem dX1_init_39 : decode cX1_init 39 = .ok (.newarray .int, 2) := by decide +kernel
theorem dX1_init_41 : decode cX1_init 41 = .ok (.putfield 24, 3) := by decide +kernel
theorem dX1_init_44 : decode cX1_init 44 = .ok (.aload_n 0, 1) := by decide +kernel
theorem dX1_init_45 : decode cX1_init 45 = .ok (.bipush 10, 2) := by decide +kernel
theorem dX1_init_47 : decode cX1_init 47 = .ok (.newarray .int, 2) := by decide +kernel
theorem dX1_init_49 : decode cX1_init 49 = .ok (.putfield 27, 3) := by decide +kernel
theorem dX1_init_52 : decode cX1_init 52 = .ok (.aload_n 0, 1) := by decide +kernel
theorem dX1_init_53 : decode cX1_init 53 = .ok (.bipush 10, 2) := by decide +kernel
theorem dX1_init_55 : decode cX1_init 55 = .ok (.newarray .int, 2) := by decide +kernel
theorem dX1_init_57 : decode cX1_init 57 = .ok (.putfield 30, 3) := by decide +kernel
theorem dX1_init_60 : decode cX1_init 60 = .ok (.aload_n 0, 1) := by decide +kernel
theorem dX1_init_61 : decode cX1_init 61 = .ok (.iconst 0, 1) := by decide +kernel
theorem dX1_init_62 : decode cX1_init 62 = .ok (.putfield 33, 3) := by decide +kernel
theorem dX1_init_65 : decode cX1_init 65 = .ok (.aload_n 0, 1) := by decide +kernel
theorem dX1_init_66 : decode cX1_init 66 = .ok (.iconst 0, 1) := by decide +kernel
theorem dX1_init_67 : decode cX1_init 67 = .ok (.putfield 37, 3) := by decide +kernel
theorem dX1_init_70 : decode cX1_init 70 = .ok (.aload_n 0, 1) := by decide +kernel
theorem dX1_init_71 : decode cX1_init 71 = .ok (.iconst 0, 1) := by decide +kernel
theorem dX1_init_72 : decode cX1_init 72 = .ok (.putfield 40, 3) := by decide +kernel
theorem dX1_init_75 : decode cX1_init 75 = .ok (.aload_n 0, 1) := by decide +kernel
theorem dX1_init_76 : decode cX1_init 76 = .ok (.iconst 0, 1) := by decide +kernel
theorem dX1_init_77 : decode cX1_init 77 = .ok (.putfield 43, 3) := by decide +kernel
theorem dX1_init_80 : decode cX1_init 80 = .ok (.return_, 1) := by decide +kernel
theorem dX1_lay_0 : decode cX1_lay 0 = .ok (.aload_n 0, 1) := by decide +kernel
theorem dX1_lay_1 : decode cX1_lay 1 = .ok (.invokevirtual 46, 3) := by decide +kernel
theorem dX1_lay_4 : decode cX1_lay 4 = .ok (.aload_n 2, 1) := by decide +kernel
theorem dX1_lay_5 : decode cX1_lay 5 = .ok (.invokevirtual 49, 3) := by decide +kernel
theorem dX1_lay_8 : decode cX1_lay 8 = .ok (.ifCond .le 17, 3) := by decide +kernel
theorem dX1_lay_11 : decode cX1_lay 11 = .ok (.aload_n 0, 1) := by decide +kernel
theorem dX1_lay_12 : decode cX1_lay 12 = .ok (.bipush 10, 2) := by decide +kernel
theorem dX1_lay_14 : decode cX1_lay 14 = .ok (.iconst 0, 1) := by decide +kernel
theorem dX1_lay_15 : decode cX1_lay 15 = .ok (.aload_n 2, 1) := by decide +kernel
theorem dX1_lay_16 : decode cX1_lay 16 = .ok (.getfield 55, 3) := by decide +kernel
theorem dX1_lay_19 : decode cX1_lay 19 = .ok (.iconst 1, 1) := by decide +kernel
theorem dX1_lay_20 : decode cX1_lay 20 = .ok (.isub, 1) := by decide +kernel
theorem dX1_lay_21 : decode cX1_lay 21 = .ok (.iconst 0, 1) := by decide +kernel
theorem dX1_lay_22 : decode cX1_lay 22 = .ok (.invokevirtual 58, 3) := by decide +kernel
theorem dX1_lay_25 : decode cX1_lay 25 = .ok (.iconst 0, 1) := by decide +kernel
theorem dX1_lay_26 : decode cX1_lay 26 = .ok (.istore_n 3, 1) := by decide +kernel
theorem dX1_lay_27 : decode cX1_lay 27 = .ok (.iload_n 3, 1) := by decide +kernel
theorem dX1_lay_28 : decode cX1_lay 28 = .ok (.bipush 105, 2) := by decide +kernel
theorem dX1_lay_30 : decode cX1_lay 30 = .ok (.if_icmp .ge 156, 3) := by decide +kernel
theorem dX1_lay_33 : decode cX1_lay 33 = .ok (.aload_n 0, 1) := by decide +kernel
theorem dX1_lay_34 : decode cX1_lay 34 = .ok (.getfield 33, 3) := by decide +kernel
theorem dX1_lay_37 : decode cX1_lay 37 = .ok (.ifCond .le 149, 3) := by decide +kernel
theorem dX1_lay_40 : decode cX1_lay 40 = .ok (.aload_n 0, 1) := by decide +kernel
theorem dX1_lay_41 : decode cX1_lay 41 = .ok (.getfield 33, 3) := by decide +kernel
theorem dX1_lay_44 : decode cX1_lay 44 = .ok (.bipush 10, 2) := by decide +kernel
theorem dX1_lay_46 : decode cX1_lay 46 = .ok (.if_icmp .gt 140, 3) := by decide +kernel
theorem dX1_lay_49 : decode cX1_lay 49 = .ok (.aload_n 0, 1) := by decide +kernel
theorem dX1_lay_50 : decode cX1_lay 50 = .ok (.dup, 1) := by decide +kernel
theorem dX1_lay_51 : decode cX1_lay 51 = .ok (.getfield 33, 3) := by decide +kernel
theorem dX1_lay_54 : decode cX1_lay 54 = .ok (.iconst 1, 1) := by decide +kernel
theorem dX1_lay_55 : decode cX1_lay 55 = .ok (.isub, 1) := by decide +kernel
theorem dX1_lay_56 : decode cX1_lay 56 = .ok (.putfield 33, 3) := by decide +kernel
theorem dX1_lay_59 : decode cX1_lay 59 = .ok (.aload_n 0, 1) := by decide +kernel
theorem dX1_lay_60 : decode cX1_lay 60 = .ok (.getfield 21, 3) := by decide +kernel
theorem dX1_lay_63 : decode cX1_lay 63 = .ok (.aload_n 0, 1) := by decide +kernel
theorem dX1_lay_64 : decode cX1_lay 64 = .ok (.getfield 33, 3) := by decide +kernel
theorem dX1_lay_67 : decode cX1_lay 67 = .ok (.iaload, 1) := by decide +kernel
theorem dX1_lay_68 : decode cX1_lay 68 = .ok (.istore 4, 2) := by decide +kernel
theorem dX1_lay_70 : decode cX1_lay 70 = .ok (.aload_n 0, 1) := by decide +kernel
theorem dX1_lay_71 : decode cX1_lay 71 = .ok (.getfield 24, 3) := by decide +kernel
theorem dX1_lay_74 : decode cX1_lay 74 = .ok (.aload_n 0, 1) := by decide +kernel
theorem dX1_lay_75 : decode cX1_lay 75 = .ok (.getfield 33, 3) := by decide +kernel
theorem dX1_lay_78 : decode cX1_lay 78 = .ok (.iaload, 1) := by decide +kernel
theorem dX1_lay_79 : decode cX1_lay 79 = .ok (.istore 5, 2) := by decide +kernel
theorem dX1_lay_81 : decode cX1_lay 81 = .ok (.aload_n 0, 1) := by decide +kernel
theorem dX1_lay_82 : decode cX1_lay 82 = .ok (.getfield 27, 3) := by decide +kernel
theorem dX1_lay_85 : decode cX1_lay 85 = .ok (.aload_n 0, 1) := by decide +kernel
theorem dX1_lay_86 : decode cX1_lay 86 = .ok (.getfield 33, 3) := by decide +kernel
theorem dX1_lay_89 : decode cX1_lay 89 = .ok (.iaload, 1) := by decide +kernel
theorem dX1_lay_90 : decode cX1_lay 90 = .ok (.istore 6, 2) := by decide +kernel
theorem dX1_lay_92 : decode cX1_lay 92 = .ok (.aload_n 0, 1) := by decide +kernel
theorem dX1_lay_93 : decode cX1_lay 93 = .ok (.getfield 30, 3) := by decide +kernel
theorem dX1_lay_96 : decode cX1_lay 96 = .ok (.aload_n 0, 1) := by decide +kernel
theorem dX1_lay_97 : decode cX1_lay 97 = .ok (.getfield 33, 3) := by decide +kernel
theorem dX1_lay_100 : decode cX1_lay 100 = .ok (.iaload, 1) := by decide +kernel
theorem dX1_lay_101 : decode cX1_lay 101 = .ok (.istore 7, 2) := by decide +kernel
theorem dX1_lay_103 : decode cX1_lay 103 = .ok (.iload 4, 2) := by decide +kernel
theorem dX1_lay_105 : decode cX1_lay 105 = .ok (.invokestatic 62, 3) := by decide +kernel
theorem dX1_lay_108 : decode cX1_lay 108 = .ok (.ifCond .eq 29, 3) := by decide +kernel
theorem dX1_lay_111 : decode cX1_lay 111 = .ok (.aload_n 0, 1) := by decide +kernel
theorem dX1_lay_112 : decode cX1_lay 112 = .ok (.dup, 1) := by decide +kernel
theorem dX1_lay_113 : decode cX1_lay 113 = .ok (.getfield 43, 3) := by decide +kernel
theorem dX1_lay_116 : decode cX1_lay 116 = .ok (.iconst 1, 1) := by decide +kernel
theorem dX1_lay_117 : decode cX1_lay 117 = .ok (.iadd, 1) := by decide +kernel
theorem dX1_lay_118 : decode cX1_lay 118 = .ok (.putfield 43, 3) := by decide +kernel
theorem dX1_lay_121 : decode cX1_lay 121 = .ok (.aload_n 0, 1) := by decide +kernel
theorem dX1_lay_122 : decode cX1_lay 122 = .ok (.aload_n 0, 1) := by decide +kernel
theorem dX1_lay_123 : decode cX1_lay 123 = .ok (.getfield 40, 3) := by decide +kernel
theorem dX1_lay_126 : decode cX1_lay 126 = .ok (.iload 7, 2) := by decide +kernel
theorem dX1_lay_128 : decode cX1_lay 128 = .ok (.invokestatic 66, 3) := by decide +kernel
theorem dX1_lay_131 : decode cX1_lay 131 = .ok (.putfield 40, 3) := by decide +kernel
theorem dX1_lay_134 : decode cX1_lay 134 = .ok (.goto 46, 3) := by decide +kernel
theorem dX1_lay_137 : decode cX1_lay 137 = .ok (.aload_n 1, 1) := by decide +kernel
theorem dX1_lay_138 : decode cX1_lay 138 = .ok (.aload_n 2, 1) := by decide +kernel
theorem dX1_lay_139 : decode cX1_lay 139 = .ok (.iload 4, 2) := by decide +kernel
theorem dX1_lay_141 : decode cX1_lay 141 = .ok (.iload 5, 2) := by decide +kernel
theorem dX1_lay_143 : decode cX1_lay 143 = .ok (.iload 6, 2) := by decide +kernel
theorem dX1_lay_145 : decode cX1_lay 145 = .ok (.invokevirtual 72, 3) := by decide +kernel
theorem dX1_lay_148 : decode cX1_lay 148 = .ok (.astore 8, 2) := by decide +kernel
theorem dX1_lay_150 : decode cX1_lay 150 = .ok (.aload 8, 2) := by decide +kernel
theorem dX1_lay_152 : decode cX1_lay 152 = .ok (.ifnull 28, 3) := by decide +kernel
theorem dX1_lay_155 : decode cX1_lay 155 = .ok (.aload_n 0, 1) := by decide +kernel
theorem dX1_lay_156 : decode cX1_lay 156 = .ok (.aload 8, 2) := by decide +kernel
theorem dX1_lay_158 : decode cX1_lay 158 = .ok (.iload 5, 2) := by decide +kernel
theorem dX1_lay_160 : decode cX1_lay 160 = .ok (.iload 6, 2) := by decide +kernel
theorem dX1_lay_162 : decode cX1_lay 162 = .ok (.invokevirtual 78, 3) := by decide +kernel
theorem dX1_lay_165 : decode cX1_lay 165 = .ok (.aload_n 0, 1) := by decide +kernel
theorem dX1_lay_166 : decode cX1_lay 166 = .ok (.aload_n 2, 1) := by decide +kernel
theorem dX1_lay_167 : decode cX1_lay 167 = .ok (.aload 8, 2) := by decide +kernel
theorem dX1_lay_169 : decode cX1_lay 169 = .ok (.iload 5, 2) := by decide +kernel
theorem dX1_lay_171 : decode cX1_lay 171 = .ok (.iload 6, 2) := by decide +kernel
theorem dX1_lay_173 : decode cX1_lay 173 = .ok (.iload 7, 2) := by decide +kernel
theorem dX1_lay_175 : decode cX1_lay 175 = .ok (.iconst 1, 1) := by decide +kernel
theorem dX1_lay_176 : decode cX1_lay 176 = .ok (.iadd, 1) := by decide +kernel
theorem dX1_lay_177 : decode cX1_lay 177 = .ok (.invokevirtual 82, 3) := by decide +kernel
theorem dX1_lay_180 : decode cX1_lay 180 = .ok (.iinc 3 1, 3) := by decide +kernel
theorem dX1_lay_183 : decode cX1_lay 183 = .ok (.goto (-156), 3) := by decide +kernel
theorem dX1_lay_186 : decode cX1_lay 186 = .ok (.return_, 1) := by decide +kernel
theorem dX1_clear_0 : decode cX1_clear 0 = .ok (.aload_n 0, 1) := by decide +kernel
theorem dX1_clear_1 : decode cX1_clear 1 = .ok (.getfield 15, 3) := by decide +kernel
theorem dX1_clear_4 : decode cX1_clear 4 = .ok (.iconst 0, 1) := by decide +kernel
theorem dX1_clear_5 : decode cX1_clear 5 = .ok (.invokestatic 86, 3) := by decide +kernel
theorem dX1_clear_8 : decode cX1_clear 8 = .ok (.aload_n 0, 1) := by decide +kernel
theorem dX1_clear_9 : decode cX1_clear 9 = .ok (.getfield 18, 3) := by decide +kernel
theorem dX1_clear_12 : decode cX1_clear 12 = .ok (.iconst 0, 1) := by decide +kernel
theorem dX1_clear_13 : decode cX1_clear 13 = .ok (.invokestatic 86, 3) := by decide +kernel
theorem dX1_clear_16 : decode cX1_clear 16 = .ok (.aload_n 0, 1) := by decide +kernel
theorem dX1_clear_17 : decode cX1_clear 17 = .ok (.iconst 0, 1) := by decide +kernel
theorem dX1_clear_18 : decode cX1_clear 18 = .ok (.putfield 33, 3) := by decide +kernel
theorem dX1_clear_21 : decode cX1_clear 21 = .ok (.aload_n 0, 1) := by decide +kernel
theorem dX1_clear_22 : decode cX1_clear 22 = .ok (.iconst 0, 1) := by decide +kernel
theorem dX1_clear_23 : decode cX1_clear 23 = .ok (.putfield 37, 3) := by decide +kernel
theorem dX1_clear_26 : decode cX1_clear 26 = .ok (.aload_n 0, 1) := by decide +kernel
theorem dX1_clear_27 : decode cX1_clear 27 = .ok (.iconst 0, 1) := by decide +kernel
theorem dX1_clear_28 : decode cX1_clear 28 = .ok (.putfield 40, 3) := by decide +kernel
theorem dX1_clear_31 : decode cX1_clear 31 = .ok (.aload_n 0, 1) := by decide +kernel
theorem dX1_clear_32 : decode cX1_clear 32 = .ok (.iconst 0, 1) := by decide +kernel
theorem dX1_clear_33 : decode cX1_clear 33 = .ok (.putfield 43, 3) := by decide +kernel
theorem dX1_clear_36 : decode cX1_clear 36 = .ok (.return_, 1) := by decide +kernel
theorem dX1_push_0 : decode cX1_push 0 = .ok (.aload_n 0, 1) := by decide +kernel
theorem dX1_push_1 : decode cX1_push 1 = .ok (.getfield 33, 3) := by decide +kernel
theorem dX1_push_4 : decode cX1_push 4 = .ok (.ifCond .lt 63, 3) := by decide +kernel
theorem dX1_push_7 : decode cX1_push 7 = .ok (.aload_n 0, 1) := by decide +kernel
theorem dX1_push_8 : decode cX1_push 8 = .ok (.getfield 33, 3) := by decide +kernel
theorem dX1_push_11 : decode cX1_push 11 = .ok (.bipush 10, 2) := by decide +kernel
theorem dX1_push_13 : decode cX1_push 13 = .ok (.if_icmp .ge 54, 3) := by decide +kernel
theorem dX1_push_16 : decode cX1_push 16 = .ok (.aload_n 0, 1) := by decide +kernel
theorem dX1_push_17 : decode cX1_push 17 = .ok (.getfield 21, 3) := by decide +kernel
theorem dX1_push_20 : decode cX1_push 20 = .ok (.aload_n 0, 1) := by decide +kernel
theorem dX1_push_21 : decode cX1_push 21 = .ok (.getfield 33, 3) := by decide +kernel
theorem dX1_push_24 : decode cX1_push 24 = .ok (.iload_n 1, 1) := by decide +kernel
theorem dX1_push_25 : decode cX1_push 25 = .ok (.iastore, 1) := by decide +kernel
theorem dX1_push_26 : decode cX1_push 26 = .ok (.aload_n 0, 1) := by decide +kernel
theorem dX1_push_27 : decode cX1_push 27 = .ok (.getfield 24, 3) := by decide +kernel
theorem dX1_push_30 : decode cX1_push 30 = .ok (.aload_n 0, 1) := by decide +kernel
theorem dX1_push_31 : decode cX1_push 31 = .ok (.getfield 33, 3) := by decide +kernel
theorem dX1_push_34 : decode cX1_push 34 = .ok (.iload_n 2, 1) := by decide +kernel
theorem dX1_push_35 : decode cX1_push 35 = .ok (.iastore, 1) := by decide +kernel
theorem dX1_push_36 : decode cX1_push 36 = .ok (.aload_n 0, 1) := by decide +kernel
theorem dX1_push_37 : decode cX1_push 37 = .ok (.getfield 27, 3) := by decide +kernel
theorem dX1_push_40 : decode cX1_push 40 = .ok (.aload_n 0, 1) := by decide +kernel
theorem dX1_push_41 : decode cX1_push 41 = .ok (.getfield 33, 3) := by decide +kernel
theorem dX1_push_44 : decode cX1_push 44 = .ok (.iload_n 3, 1) := by decide +kernel
theorem dX1_push_45 : decode cX1_push 45 = .ok (.iastore, 1) := by decide +kernel
theorem dX1_push_46 : decode cX1_push 46 = .ok (.aload_n 0, 1) := by decide +kernel
theorem dX1_push_47 : decode cX1_push 47 = .ok (.getfield 30, 3) := by decide +kernel
theorem dX1_push_50 : decode cX1_push 50 = .ok (.aload_n 0, 1) := by decide +kernel
theorem dX1_push_51 : decode cX1_push 51 = .ok (.getfield 33, 3) := by decide +kernel
theorem dX1_push_54 : decode cX1_push 54 = .ok (.iload 4, 2) := by decide +kernel
theorem dX1_push_56 : decode cX1_push 56 = .ok (.iastore, 1) := by decide +kernel
theorem dX1_push_57 : decode cX1_push 57 = .ok (.aload_n 0, 1) := by decide +kernel
theorem dX1_push_58 : decode cX1_push 58 = .ok (.dup, 1) := by decide +kernel
theorem dX1_push_59 : decode cX1_push 59 = .ok (.getfield 33, 3) := by decide +kernel
theorem dX1_push_62 : decode cX1_push 62 = .ok (.iconst 1, 1) := by decide +kernel
theorem dX1_push_63 : decode cX1_push 63 = .ok (.iadd, 1) := by decide +kernel
theorem dX1_push_64 : decode cX1_push 64 = .ok (.putfield 33, 3) := by decide +kernel
theorem dX1_push_67 : decode cX1_push 67 = .ok (.return_, 1) := by decide +kernel
theorem dX1_layRule_0 : decode cX1_layRule 0 = .ok (.aload_n 0, 1) := by decide +kernel
theorem dX1_layRule_1 : decode cX1_layRule 1 = .ok (.getfield 37, 3) := by decide +kernel
theorem dX1_layRule_4 : decode cX1_layRule 4 = .ok (.aload_n 0, 1) := by decide +kernel
theorem dX1_layRule_5 : decode cX1_layRule 5 = .ok (.getfield 9, 3) := by decide +kernel
theorem dX1_layRule_8 : decode cX1_layRule 8 = .ok (.arraylength, 1) := by decide +kernel
theorem dX1_layRule_9 : decode cX1_layRule 9 = .ok (.if_icmp .ge 26, 3) := by decide +kernel
theorem dX1_layRule_12 : decode cX1_layRule 12 = .ok (.aload_n 0, 1) := by decide +kernel
theorem dX1_layRule_13 : decode cX1_layRule 13 = .ok (.getfield 9, 3) := by decide +kernel
theorem dX1_layRule_16 : decode cX1_layRule 16 = .ok (.aload_n 0, 1) := by decide +kernel
theorem dX1_layRule_17 : decode cX1_layRule 17 = .ok (.getfield 37, 3) := by decide +kernel
theorem dX1_layRule_20 : decode cX1_layRule 20 = .ok (.aload_n 1, 1) := by decide +kernel
theorem dX1_layRule_21 : decode cX1_layRule 21 = .ok (.getfield 92, 3) := by decide +kernel
theorem dX1_layRule_24 : decode cX1_layRule 24 = .ok (.iastore, 1) := by decide +kernel
theorem dX1_layRule_25 : decode cX1_layRule 25 = .ok (.aload_n 0, 1) := by decide +kernel
theorem dX1_layRule_26 : decode cX1_layRule 26 = .ok (.dup, 1) := by decide +kernel
theorem dX1_layRule_27 : decode cX1_layRule 27 = .ok (.getfield 37, 3) := by decide +kernel
theorem dX1_layRule_30 : decode cX1_layRule 30 = .ok (.iconst 1, 1) := by decide +kernel
theorem dX1_layRule_31 : decode cX1_layRule 31 = .ok (.iadd, 1) := by decide +kernel
theorem dX1_layRule_32 : decode cX1_layRule 32 = .ok (.putfield 37, 3) := by decide +kernel
theorem dX1_layRule_35 : decode cX1_layRule 35 = .ok (.aload_n 1, 1) := by decide +kernel
theorem dX1_layRule_36 : decode cX1_layRule 36 = .ok (.getfield 97, 3) := by decide +kernel
theorem dX1_layRule_39 : decode cX1_layRule 39 = .ok (.ifCond .eq 7, 3) := by decide +kernel
theorem dX1_layRule_42 : decode cX1_layRule 42 = .ok (.iload_n 2, 1) := by decide +kernel
theorem dX1_layRule_43 : decode cX1_layRule 43 = .ok (.ifCond .ge 4, 3) := by decide +kernel
theorem dX1_layRule_46 : decode cX1_layRule 46 = .ok (.return_, 1) := by decide +kernel
theorem dX1_layRule_47 : decode cX1_layRule 47 = .ok (.iload_n 2, 1) := by decide +kernel
theorem dX1_layRule_48 : decode cX1_layRule 48 = .ok (.istore 4, 2) := by decide +kernel
theorem dX1_layRule_50 : decode cX1_layRule 50 = .ok (.iload 4, 2) := by decide +kernel
theorem dX1_layRule_52 : decode cX1_layRule 52 = .ok (.iload_n 3, 1) := by decide +kernel
theorem dX1_layRule_53 : decode cX1_layRule 53 = .ok (.if_icmp .gt 30, 3) := by decide +kernel
theorem dX1_layRule_56 : decode cX1_layRule 56 = .ok (.iload 4, 2) := by decide +kernel
theorem dX1_layRule_58 : decode cX1_layRule 58 = .ok (.aload_n 0, 1) := by decide +kernel
theorem dX1_layRule_59 : decode cX1_layRule 59 = .ok (.getfield 15, 3) := by decide +kernel
theorem dX1_layRule_62 : decode cX1_layRule 62 = .ok (.arraylength, 1) := by decide +kernel
theorem dX1_layRule_63 : decode cX1_layRule 63 = .ok (.if_icmp .ge 20, 3) := by decide +kernel
theorem dX1_layRule_66 : decode cX1_layRule 66 = .ok (.aload_n 0, 1) := by decide +kernel
theorem dX1_layRule_67 : decode cX1_layRule 67 = .ok (.getfield 15, 3) := by decide +kernel
theorem dX1_layRule_70 : decode cX1_layRule 70 = .ok (.iload 4, 2) := by decide +kernel
theorem dX1_layRule_72 : decode cX1_layRule 72 = .ok (.aload_n 1, 1) := by decide +kernel
theorem dX1_layRule_73 : decode cX1_layRule 73 = .ok (.getfield 97, 3) := by decide +kernel
theorem dX1_layRule_76 : decode cX1_layRule 76 = .ok (.iastore, 1) := by decide +kernel
theorem dX1_layRule_77 : decode cX1_layRule 77 = .ok (.iinc 4 1, 3) := by decide +kernel
theorem dX1_layRule_80 : decode cX1_layRule 80 = .ok (.goto (-30), 3) := by decide +kernel
theorem dX1_layRule_83 : decode cX1_layRule 83 = .ok (.return_, 1) := by decide +kernel
theorem dX1_pushParts_0 : decode cX1_pushParts 0 = .ok (.aload_n 1, 1) := by decide +kernel
theorem dX1_pushParts_1 : decode cX1_pushParts 1 = .ok (.aload_n 2, 1) := by decide +kernel
theorem dX1_pushParts_2 : decode cX1_pushParts 2 = .ok (.iload_n 3, 1) := by decide +kernel
theorem dX1_pushParts_3 : decode cX1_pushParts 3 = .ok (.iload 4, 2) := by decide +kernel
theorem dX1_pushParts_5 : decode cX1_pushParts 5 = .ok (.invokevirtual 100, 3) := by decide +kernel
theorem dX1_pushParts_8 : decode cX1_pushParts 8 = .ok (.istore 6, 2) := by decide +kernel
theorem dX1_pushParts_10 : decode cX1_pushParts 10 = .ok (.iload 6, 2) := by decide +kernel
theorem dX1_pushParts_12 : decode cX1_pushParts 12 = .ok (.iconst (-1), 1) := by decide +kernel
theorem dX1_pushParts_13 : decode cX1_pushParts 13 = .ok (.if_icmp .ne 4, 3) := by decide +kernel
theorem dX1_pushParts_16 : decode cX1_pushParts 16 = .ok (.return_, 1) := by decide +kernel
theorem dX1_pushParts_17 : decode cX1_pushParts 17 = .ok (.iload 6, 2) := by decide +kernel
theorem dX1_pushParts_19 : decode cX1_pushParts 19 = .ok (.bipush 10, 2) := by decide +kernel
theorem dX1_pushParts_21 : decode cX1_pushParts 21 = .ok (.idiv, 1) := by decide +kernel
theorem dX1_pushParts_22 : decode cX1_pushParts 22 = .ok (.istore 7, 2) := by decide +kernel
theorem dX1_pushParts_24 : decode cX1_pushParts 24 = .ok (.iload 6, 2) := by decide +kernel
theorem dX1_pushParts_26 : decode cX1_pushParts 26 = .ok (.bipush 10, 2) := by decide +kernel
theorem dX1_pushParts_28 : decode cX1_pushParts 28 = .ok (.irem, 1) := by decide +kernel
theorem dX1_pushParts_29 : decode cX1_pushParts 29 = .ok (.istore 8, 2) := by decide +kernel
theorem dX1_pushParts_31 : decode cX1_pushParts 31 = .ok (.aload_n 2, 1) := by decide +kernel
theorem dX1_pushParts_32 : decode cX1_pushParts 32 = .ok (.getfield 104, 3) := by decide +kernel
theorem dX1_pushParts_35 : decode cX1_pushParts 35 = .ok (.iconst (-1), 1) := by decide +kernel
theorem dX1_pushParts_36 : decode cX1_pushParts 36 = .ok (.if_icmp .eq 31, 3) := by decide +kernel
theorem dX1_pushParts_39 : decode cX1_pushParts 39 = .ok (.aload_n 0, 1) := by decide +kernel
theorem dX1_pushParts_40 : decode cX1_pushParts 40 = .ok (.iload 8, 2) := by decide +kernel
theorem dX1_pushParts_42 : decode cX1_pushParts 42 = .ok (.iconst 1, 1) := by decide +kernel
theorem dX1_pushParts_43 : decode cX1_pushParts 43 = .ok (.iadd, 1) := by decide +kernel
theorem dX1_pushParts_44 : decode cX1_pushParts 44 = .ok (.aload_n 2, 1) := by decide +kernel
theorem dX1_pushParts_45 : decode cX1_pushParts 45 = .ok (.getfield 107, 3) := by decide +kernel
theorem dX1_pushParts_48 : decode cX1_pushParts 48 = .ok (.invokevirtual 110, 3) := by decide +kernel
theorem dX1_pushParts_51 : decode cX1_pushParts 51 = .ok (.aload_n 0, 1) := by decide +kernel
theorem dX1_pushParts_52 : decode cX1_pushParts 52 = .ok (.aload_n 2, 1) := by decide +kernel
theorem dX1_pushParts_53 : decode cX1_pushParts 53 = .ok (.getfield 104, 3) := by decide +kernel
theorem dX1_pushParts_56 : decode cX1_pushParts 56 = .ok (.iload 8, 2) := by decide +kernel
theorem dX1_pushParts_58 : decode cX1_pushParts 58 = .ok (.iconst 1, 1) := by decide +kernel
theorem dX1_pushParts_59 : decode cX1_pushParts 59 = .ok (.iadd, 1) := by decide +kernel
theorem dX1_pushParts_60 : decode cX1_pushParts 60 = .ok (.iload 4, 2) := by decide +kernel
theorem dX1_pushParts_62 : decode cX1_pushParts 62 = .ok (.iload 5, 2) := by decide +kernel
theorem dX1_pushParts_64 : decode cX1_pushParts 64 = .ok (.invokevirtual 58, 3) := by decide +kernel
theorem dX1_pushParts_67 : decode cX1_pushParts 67 = .ok (.aload_n 2, 1) := by decide +kernel
theorem dX1_pushParts_68 : decode cX1_pushParts 68 = .ok (.getfield 114, 3) := by decide +kernel
theorem dX1_pushParts_71 : decode cX1_pushParts 71 = .ok (.iconst (-1), 1) := by decide +kernel
theorem dX1_pushParts_72 : decode cX1_pushParts 72 = .ok (.if_icmp .eq 31, 3) := by decide +kernel
theorem dX1_pushParts_75 : decode cX1_pushParts 75 = .ok (.aload_n 0, 1) := by decide +kernel
theorem dX1_pushParts_76 : decode cX1_pushParts 76 = .ok (.iload 7, 2) := by decide +kernel
theorem dX1_pushParts_78 : decode cX1_pushParts 78 = .ok (.iconst 1, 1) := by decide +kernel
theorem dX1_pushParts_79 : decode cX1_pushParts 79 = .ok (.iadd, 1) := by decide +kernel
theorem dX1_pushParts_80 : decode cX1_pushParts 80 = .ok (.aload_n 2, 1) := by decide +kernel
theorem dX1_pushParts_81 : decode cX1_pushParts 81 = .ok (.getfield 107, 3) := by decide +kernel
theorem dX1_pushParts_84 : decode cX1_pushParts 84 = .ok (.invokevirtual 110, 3) := by decide +kernel
theorem dX1_pushParts_87 : decode cX1_pushParts 87 = .ok (.aload_n 0, 1) := by decide +kernel
theorem dX1_pushParts_88 : decode cX1_pushParts 88 = .ok (.aload_n 2, 1) := by decide +kernel
theorem dX1_pushParts_89 : decode cX1_pushParts 89 = .ok (.getfield 114, 3) := by decide +kernel
theorem dX1_pushParts_92 : decode cX1_pushParts 92 = .ok (.iload 7, 2) := by decide +kernel
theorem dX1_pushParts_94 : decode cX1_pushParts 94 = .ok (.iconst 1, 1) := by decide +kernel
theorem dX1_pushParts_95 : decode cX1_pushParts 95 = .ok (.iadd, 1) := by decide +kernel
theorem dX1_pushParts_96 : decode cX1_pushParts 96 = .ok (.iload 8, 2) := by decide +kernel
theorem dX1_pushParts_98 : decode cX1_pushParts 98 = .ok (.iload 5, 2) := by decide +kernel
theorem dX1_pushParts_100 : decode cX1_pushParts 100 = .ok (.invokevirtual 58, 3) := by decide +kernel
theorem dX1_pushParts_103 : decode cX1_pushParts 103 = .ok (.aload_n 0, 1) := by decide +kernel
theorem dX1_pushParts_104 : decode cX1_pushParts 104 = .ok (.aload_n 2, 1) := by decide +kernel
theorem dX1_pushParts_105 : decode cX1_pushParts 105 = .ok (.getfield 117, 3) := by decide +kernel
theorem dX1_pushParts_108 : decode cX1_pushParts 108 = .ok (.iload_n 3, 1) := by decide +kernel
theorem dX1_pushParts_109 : decode cX1_pushParts 109 = .ok (.iload 7, 2) := by decide +kernel
theorem dX1_pushParts_111 : decode cX1_pushParts 111 = .ok (.iload 5, 2) := by decide +kernel
theorem dX1_pushParts_113 : decode cX1_pushParts 113 = .ok (.invokevirtual 58, 3) := by decide +kernel
theorem dX1_pushParts_116 : decode cX1_pushParts 116 = .ok (.return_, 1) := by decide +kernel
theorem dX1_setGap_0 : decode cX1_setGap 0 = .ok (.iload_n 1, 1) := by decide +kernel
theorem dX1_setGap_1 : decode cX1_setGap 1 = .ok (.ifCond .lt 19, 3) := by decide +kernel
theorem dX1_setGap_4 : decode cX1_setGap 4 = .ok (.iload_n 1, 1) := by decide +kernel
theorem dX1_setGap_5 : decode cX1_setGap 5 = .ok (.aload_n 0, 1) := by decide +kernel
theorem dX1_setGap_6 : decode cX1_setGap 6 = .ok (.getfield 18, 3) := by decide +kernel
theorem dX1_setGap_9 : decode cX1_setGap 9 = .ok (.arraylength, 1) := by decide +kernel
theorem dX1_setGap_10 : decode cX1_setGap 10 = .ok (.if_icmp .ge 10, 3) := by decide +kernel
theorem dX1_setGap_13 : decode cX1_setGap 13 = .ok (.aload_n 0, 1) := by decide +kernel
theorem dX1_setGap_14 : decode cX1_setGap 14 = .ok (.getfield 18, 3) := by decide +kernel
theorem dX1_setGap_17 : decode cX1_setGap 17 = .ok (.iload_n 1, 1) := by decide +kernel
theorem dX1_setGap_18 : decode cX1_setGap 18 = .ok (.iload_n 2, 1) := by decide +kernel
theorem dX1_setGap_19 : decode cX1_setGap 19 = .ok (.iastore, 1) := by decide +kernel
theorem dX1_setGap_20 : decode cX1_setGap 20 = .ok (.return_, 1) := by decide +kernel
theorem dX1_ruleNumber_0 : decode cX1_ruleNumber 0 = .ok (.iload_n 1, 1) := by decide +kernel
theorem dX1_ruleNumber_1 : decode cX1_ruleNumber 1 = .ok (.ifCond .lt 21, 3) := by decide +kernel
theorem dX1_ruleNumber_4 : decode cX1_ruleNumber 4 = .ok (.iload_n 1, 1) := by decide +kernel
theorem dX1_ruleNumber_5 : decode cX1_ruleNumber 5 = .ok (.aload_n 0, 1) := by decide +kernel
theorem dX1_ruleNumber_6 : decode cX1_ruleNumber 6 = .ok (.getfield 9, 3) := by decide +kernel
theorem dX1_ruleNumber_9 : decode cX1_ruleNumber 9 = .ok (.arraylength, 1) := by decide +kernel
theorem dX1_ruleNumber_10 : decode cX1_ruleNumber 10 = .ok (.if_icmp .ge 12, 3) := by decide +kernel
theorem dX1_ruleNumber_13 : decode cX1_ruleNumber 13 = .ok (.aload_n 0, 1) := by decide +kernel
theorem dX1_ruleNumber_14 : decode cX1_ruleNumber 14 = .ok (.getfield 9, 3) := by decide +kernel
theorem dX1_ruleNumber_17 : decode cX1_ruleNumber 17 = .ok (.iload_n 1, 1) := by decide +kernel
theorem dX1_ruleNumber_18 : decode cX1_ruleNumber 18 = .ok (.iaload, 1) := by decide +kernel
theorem dX1_ruleNumber_19 : decode cX1_ruleNumber 19 = .ok (.goto 4, 3) := by decide +kernel
theorem dX1_ruleNumber_22 : decode cX1_ruleNumber 22 = .ok (.iconst (-1), 1) := by decide +kernel
theorem dX1_ruleNumber_23 : decode cX1_ruleNumber 23 = .ok (.ireturn, 1) := by decide +kernel
theorem dX1_colourOf_0 : decode cX1_colourOf 0 = .ok (.iload_n 1, 1) := by decide +kernel
theorem dX1_colourOf_1 : decode cX1_colourOf 1 = .ok (.ifCond .lt 21, 3) := by decide +kernel
theorem dX1_colourOf_4 : decode cX1_colourOf 4 = .ok (.iload_n 1, 1) := by decide +kernel
theorem dX1_colourOf_5 : decode cX1_colourOf 5 = .ok (.aload_n 0, 1) := by decide +kernel
theorem dX1_colourOf_6 : decode cX1_colourOf 6 = .ok (.getfield 15, 3) := by decide +kernel
theorem dX1_colourOf_9 : decode cX1_colourOf 9 = .ok (.arraylength, 1) := by decide +kernel
theorem dX1_colourOf_10 : decode cX1_colourOf 10 = .ok (.if_icmp .ge 12, 3) := by decide +kernel
theorem dX1_colourOf_13 : decode cX1_colourOf 13 = .ok (.aload_n 0, 1) := by decide +kernel
theorem dX1_colourOf_14 : decode cX1_colourOf 14 = .ok (.getfield 15, 3) := by decide +kernel
theorem dX1_colourOf_17 : decode cX1_colourOf 17 = .ok (.iload_n 1, 1) := by decide +kernel
theorem dX1_colourOf_18 : decode cX1_colourOf 18 = .ok (.iaload, 1) := by decide +kernel
theorem dX1_colourOf_19 : decode cX1_colourOf 19 = .ok (.goto 4, 3) := by decide +kernel
theorem dX1_colourOf_22 : decode cX1_colourOf 22 = .ok (.iconst 0, 1) := by decide +kernel
theorem dX1_colourOf_23 : decode cX1_colourOf 23 = .ok (.ireturn, 1) := by decide +kernel
theorem dX1_countSigns_0 : decode cX1_countSigns 0 = .ok (.aload_n 0, 1) := by decide +kernel
theorem dX1_countSigns_1 : decode cX1_countSigns 1 = .ok (.getfield 43, 3) := by decide +kernel
theorem dX1_countSigns_4 : decode cX1_countSigns 4 = .ok (.istore_n 1, 1) := by decide +kernel
theorem dX1_countSigns_5 : decode cX1_countSigns 5 = .ok (.aload_n 0, 1) := by decide +kernel
theorem dX1_countSigns_6 : decode cX1_countSigns 6 = .ok (.getfield 18, 3) := by decide +kernel
theorem dX1_countSigns_9 : decode cX1_countSigns 9 = .ok (.astore_n 2, 1) := by decide +kernel
theorem dX1_countSigns_10 : decode cX1_countSigns 10 = .ok (.aload_n 2, 1) := by decide +kernel
theorem dX1_countSigns_11 : decode cX1_countSigns 11 = .ok (.arraylength, 1) := by decide +kernel
theorem dX1_countSigns_12 : decode cX1_countSigns 12 = .ok (.istore_n 3, 1) := by decide +kernel
theorem dX1_countSigns_13 : decode cX1_countSigns 13 = .ok (.iconst 0, 1) := by decide +kernel
theorem dX1_countSigns_14 : decode cX1_countSigns 14 = .ok (.istore 4, 2) := by decide +kernel
theorem dX1_countSigns_16 : decode cX1_countSigns 16 = .ok (.iload 4, 2) := by decide +kernel
theorem dX1_countSigns_18 : decode cX1_countSigns 18 = .ok (.iload_n 3, 1) := by decide +kernel
theorem dX1_countSigns_19 : decode cX1_countSigns 19 = .ok (.if_icmp .ge 20, 3) := by decide +kernel
theorem dX1_countSigns_22 : decode cX1_countSigns 22 = .ok (.aload_n 2, 1) := by decide +kernel
theorem dX1_countSigns_23 : decode cX1_countSigns 23 = .ok (.iload 4, 2) := by decide +kernel
theorem dX1_countSigns_25 : decode cX1_countSigns 25 = .ok (.iaload, 1) := by decide +kernel
theorem dX1_countSigns_26 : decode cX1_countSigns 26 = .ok (.istore 5, 2) := by decide +kernel
theorem dX1_countSigns_28 : decode cX1_countSigns 28 = .ok (.iload_n 1, 1) := by decide +kernel
theorem dX1_countSigns_29 : decode cX1_countSigns 29 = .ok (.iload 5, 2) := by decide +kernel
theorem dX1_countSigns_31 : decode cX1_countSigns 31 = .ok (.iadd, 1) := by decide +kernel
theorem dX1_countSigns_32 : decode cX1_countSigns 32 = .ok (.istore_n 1, 1) := by decide +kernel
theorem dX1_countSigns_33 : decode cX1_countSigns 33 = .ok (.iinc 4 1, 3) := by decide +kernel
theorem dX1_countSigns_36 : decode cX1_countSigns 36 = .ok (.goto (-20), 3) := by decide +kernel
theorem dX1_countSigns_39 : decode cX1_countSigns 39 = .ok (.iload_n 1, 1) := by decide +kernel
theorem dX1_countSigns_40 : decode cX1_countSigns 40 = .ok (.ireturn, 1) := by decide +kernel
theorem dX1_sign_0 : decode cX1_sign 0 = .ok (.iconst 0, 1) := by decide +kernel
theorem dX1_sign_1 : decode cX1_sign 1 = .ok (.istore_n 3, 1) := by decide +kernel
theorem dX1_sign_2 : decode cX1_sign 2 = .ok (.iconst 0, 1) := by decide +kernel
theorem dX1_sign_3 : decode cX1_sign 3 = .ok (.istore 4, 2) := by decide +kernel
theorem dX1_sign_5 : decode cX1_sign 5 = .ok (.iload 4, 2) := by decide +kernel
theorem dX1_sign_7 : decode cX1_sign 7 = .ok (.aload_n 0, 1) := by decide +kernel
theorem dX1_sign_8 : decode cX1_sign 8 = .ok (.getfield 18, 3) := by decide +kernel
theorem dX1_sign_11 : decode cX1_sign 11 = .ok (.arraylength, 1) := by decide +kernel
theorem dX1_sign_12 : decode cX1_sign 12 = .ok (.if_icmp .ge 46, 3) := by decide +kernel
theorem dX1_sign_15 : decode cX1_sign 15 = .ok (.iload_n 3, 1) := by decide +kernel
theorem dX1_sign_16 : decode cX1_sign 16 = .ok (.aload_n 0, 1) := by decide +kernel
theorem dX1_sign_17 : decode cX1_sign 17 = .ok (.getfield 18, 3) := by decide +kernel
theorem dX1_sign_20 : decode cX1_sign 20 = .ok (.iload 4, 2) := by decide +kernel
theorem dX1_sign_22 : decode cX1_sign 22 = .ok (.iaload, 1) := by decide +kernel
theorem dX1_sign_23 : decode cX1_sign 23 = .ok (.iadd, 1) := by decide +kernel
theorem dX1_sign_24 : decode cX1_sign 24 = .ok (.istore_n 3, 1) := by decide +kernel
theorem dX1_sign_25 : decode cX1_sign 25 = .ok (.iload_n 2, 1) := by decide +kernel
theorem dX1_sign_26 : decode cX1_sign 26 = .ok (.iload_n 3, 1) := by decide +kernel
theorem dX1_sign_27 : decode cX1_sign 27 = .ok (.if_icmp .ge 6, 3) := by decide +kernel
theorem dX1_sign_30 : decode cX1_sign 30 = .ok (.bipush 32, 2) := by decide +kernel
theorem dX1_sign_32 : decode cX1_sign 32 = .ok (.ireturn, 1) := by decide +kernel
theorem dX1_sign_33 : decode cX1_sign 33 = .ok (.iload_n 2, 1) := by decide +kernel
theorem dX1_sign_34 : decode cX1_sign 34 = .ok (.iload_n 3, 1) := by decide +kernel
theorem dX1_sign_35 : decode cX1_sign 35 = .ok (.if_icmp .ne 14, 3) := by decide +kernel
theorem dX1_sign_38 : decode cX1_sign 38 = .ok (.bipush 97, 2) := by decide +kernel
theorem dX1_sign_40 : decode cX1_sign 40 = .ok (.aload_n 1, 1) := by decide +kernel
theorem dX1_sign_41 : decode cX1_sign 41 = .ok (.iload 4, 2) := by decide +kernel
theorem dX1_sign_43 : decode cX1_sign 43 = .ok (.invokevirtual 120, 3) := by decide +kernel
theorem dX1_sign_46 : decode cX1_sign 46 = .ok (.iadd, 1) := by decide +kernel
theorem dX1_sign_47 : decode cX1_sign 47 = .ok (.i2c, 1) := by decide +kernel
theorem dX1_sign_48 : decode cX1_sign 48 = .ok (.ireturn, 1) := by decide +kernel
theorem dX1_sign_49 : decode cX1_sign 49 = .ok (.iinc 3 1, 3) := by decide +kernel
theorem dX1_sign_52 : decode cX1_sign 52 = .ok (.iinc 4 1, 3) := by decide +kernel
theorem dX1_sign_55 : decode cX1_sign 55 = .ok (.goto (-50), 3) := by decide +kernel
theorem dX1_sign_58 : decode cX1_sign 58 = .ok (.bipush 32, 2) := by decide +kernel
theorem dX1_sign_60 : decode cX1_sign 60 = .ok (.ireturn, 1) := by decide +kernel
theorem dX2_init_0 : decode cX2_init 0 = .ok (.aload_n 0, 1) := by decide +kernel
theorem dX2_init_1 : decode cX2_init 1 = .ok (.invokespecial 1, 3) := by decide +kernel
theorem dX2_init_4 : decode cX2_init 4 = .ok (.aload_n 0, 1) := by decide +kernel
theorem dX2_init_5 : decode cX2_init 5 = .ok (.iconst 0, 1) := by decide +kernel
theorem dX2_init_6 : decode cX2_init 6 = .ok (.putfield 7, 3) := by decide +kernel
theorem dX2_init_9 : decode cX2_init 9 = .ok (.aload_n 0, 1) := by decide +kernel
theorem dX2_init_10 : decode cX2_init 10 = .ok (.iconst 0, 1) := by decide +kernel
theorem dX2_init_11 : decode cX2_init 11 = .ok (.putfield 13, 3) := by decide +kernel
theorem dX2_init_14 : decode cX2_init 14 = .ok (.aload_n 0, 1) := by decide +kernel
theorem dX2_init_15 : decode cX2_init 15 = .ok (.iconst 0, 1) := by decide +kernel
theorem dX2_init_16 : decode cX2_init 16 = .ok (.putfield 16, 3) := by decide +kernel
theorem dX2_init_19 : decode cX2_init 19 = .ok (.aload_n 0, 1) := by decide +kernel
theorem dX2_init_20 : decode cX2_init 20 = .ok (.iconst 0, 1) := by decide +kernel
theorem dX2_init_21 : decode cX2_init 21 = .ok (.putfield 19, 3) := by decide +kernel
theorem dX2_init_24 : decode cX2_init 24 = .ok (.aload_n 0, 1) := by decide +kernel
theorem dX2_init_25 : decode cX2_init 25 = .ok (.iload_n 1, 1) := by decide +kernel
theorem dX2_init_26 : decode cX2_init 26 = .ok (.putfield 23, 3) := by decide +kernel
theorem dX2_init_29 : decode cX2_init 29 = .ok (.aload_n 0, 1) := by decide +kernel
theorem dX2_init_30 : decode cX2_init 30 = .ok (.iload_n 2, 1) := by decide +kernel
theorem dX2_init_31 : decode cX2_init 31 = .ok (.putfield 26, 3) := by decide +kernel
theorem dX2_init_34 : decode cX2_init 34 = .ok (.aload_n 0, 1) := by decide +kernel
theorem dX2_init_35 : decode cX2_init 35 = .ok (.iload_n 3, 1) := by decide +kernel
theorem dX2_init_36 : decode cX2_init 36 = .ok (.putfield 29, 3) := by decide +kernel
theorem dX2_init_39 : decode cX2_init 39 = .ok (.aload_n 0, 1) := by decide +kernel
theorem dX2_init_40 : decode cX2_init 40 = .ok (.iload 4, 2) := by decide +kernel
theorem dX2_init_42 : decode cX2_init 42 = .ok (.putfield 32, 3) := by decide +kernel
theorem dX2_init_45 : decode cX2_init 45 = .ok (.aload_n 0, 1) := by decide +kernel
theorem dX2_init_46 : decode cX2_init 46 = .ok (.iload 5, 2) := by decide +kernel
theorem dX2_init_48 : decode cX2_init 48 = .ok (.putfield 35, 3) := by decide +kernel
theorem dX2_init_51 : decode cX2_init 51 = .ok (.return_, 1) := by decide +kernel
theorem dX3_init_0 : decode cX3_init 0 = .ok (.aload_n 0, 1) := by decide +kernel
theorem dX3_init_1 : decode cX3_init 1 = .ok (.invokespecial 3, 3) := by decide +kernel
theorem dX3_init_4 : decode cX3_init 4 = .ok (.aload_n 0, 1) := by decide +kernel
theorem dX3_init_5 : decode cX3_init 5 = .ok (.bipush 10, 2) := by decide +kernel
theorem dX3_init_7 : decode cX3_init 7 = .ok (.newarray .int, 2) := by decide +kernel
theorem dX3_init_9 : decode cX3_init 9 = .ok (.putfield 9, 3) := by decide +kernel
theorem dX3_init_12 : decode cX3_init 12 = .ok (.aload_n 0, 1) := by decide +kernel
theorem dX3_init_13 : decode cX3_init 13 = .ok (.sipush 500, 3) := by decide +kernel
theorem dX3_init_16 : decode cX3_init 16 = .ok (.newarray .int, 2) := by decide +kernel
theorem dX3_init_18 : decode cX3_init 18 = .ok (.putfield 15, 3) := by decide +kernel
theorem dX3_init_21 : decode cX3_init 21 = .ok (.aload_n 0, 1) := by decide +kernel
theorem dX3_init_22 : decode cX3_init 22 = .ok (.iconst 0, 1) := by decide +kernel
theorem dX3_init_23 : decode cX3_init 23 = .ok (.putfield 18, 3) := by decide +kernel
theorem dX3_init_26 : decode cX3_init 26 = .ok (.return_, 1) := by decide +kernel
theorem dX3_letterOf_0 : decode cX3_letterOf 0 = .ok (.iload_n 1, 1) := by decide +kernel
theorem dX3_letterOf_1 : decode cX3_letterOf 1 = .ok (.ifCond .lt 21, 3) := by decide +kernel
theorem dX3_letterOf_4 : decode cX3_letterOf 4 = .ok (.iload_n 1, 1) := by decide +kernel
theorem dX3_letterOf_5 : decode cX3_letterOf 5 = .ok (.aload_n 0, 1) := by decide +kernel
theorem dX3_letterOf_6 : decode cX3_letterOf 6 = .ok (.getfield 9, 3) := by decide +kernel
theorem dX3_letterOf_9 : decode cX3_letterOf 9 = .ok (.arraylength, 1) := by decide +kernel
theorem dX3_letterOf_10 : decode cX3_letterOf 10 = .ok (.if_icmp .ge 12, 3) := by decide +kernel
theorem dX3_letterOf_13 : decode cX3_letterOf 13 = .ok (.aload_n 0, 1) := by decide +kernel
theorem dX3_letterOf_14 : decode cX3_letterOf 14 = .ok (.getfield 9, 3) := by decide +kernel
theorem dX3_letterOf_17 : decode cX3_letterOf 17 = .ok (.iload_n 1, 1) := by decide +kernel
theorem dX3_letterOf_18 : decode cX3_letterOf 18 = .ok (.iaload, 1) := by decide +kernel
theorem dX3_letterOf_19 : decode cX3_letterOf 19 = .ok (.goto 4, 3) := by decide +kernel
theorem dX3_letterOf_22 : decode cX3_letterOf 22 = .ok (.iconst (-1), 1) := by decide +kernel
theorem dX3_letterOf_23 : decode cX3_letterOf 23 = .ok (.ireturn, 1) := by decide +kernel
theorem dX3_put_0 : decode cX3_put 0 = .ok (.iload_n 1, 1) := by decide +kernel
theorem dX3_put_1 : decode cX3_put 1 = .ok (.ifCond .lt 19, 3) := by decide +kernel
theorem dX3_put_4 : decode cX3_put 4 = .ok (.iload_n 1, 1) := by decide +kernel
theorem dX3_put_5 : decode cX3_put 5 = .ok (.aload_n 0, 1) := by decide +kernel
theorem dX3_put_6 : decode cX3_put 6 = .ok (.getfield 9, 3) := by decide +kernel
theorem dX3_put_9 : decode cX3_put 9 = .ok (.arraylength, 1) := by decide +kernel
theorem dX3_put_10 : decode cX3_put 10 = .ok (.if_icmp .ge 10, 3) := by decide +kernel
theorem dX3_put_13 : decode cX3_put 13 = .ok (.aload_n 0, 1) := by decide +kernel
theorem dX3_put_14 : decode cX3_put 14 = .ok (.getfield 9, 3) := by decide +kernel
theorem dX3_put_17 : decode cX3_put 17 = .ok (.iload_n 1, 1) := by decide +kernel
theorem dX3_put_18 : decode cX3_put 18 = .ok (.iload_n 2, 1) := by decide +kernel
theorem dX3_put_19 : decode cX3_put 19 = .ok (.iastore, 1) := by decide +kernel
theorem dX3_put_20 : decode cX3_put 20 = .ok (.return_, 1) := by decide +kernel
theorem dX3_append_0 : decode cX3_append 0 = .ok (.aload_n 0, 1) := by decide +kernel
theorem dX3_append_1 : decode cX3_append 1 = .ok (.getfield 18, 3) := by decide +kernel
theorem dX3_append_4 : decode cX3_append 4 = .ok (.bipush 10, 2) := by decide +kernel
theorem dX3_append_6 : decode cX3_append 6 = .ok (.if_icmp .ge 22, 3) := by decide +kernel
theorem dX3_append_9 : decode cX3_append 9 = .ok (.aload_n 0, 1) := by decide +kernel
theorem dX3_append_10 : decode cX3_append 10 = .ok (.aload_n 0, 1) := by decide +kernel
theorem dX3_append_11 : decode cX3_append 11 = .ok (.getfield 18, 3) := by decide +kernel
theorem dX3_append_14 : decode cX3_append 14 = .ok (.iload_n 1, 1) := by decide +kernel
theorem dX3_append_15 : decode cX3_append 15 = .ok (.invokevirtual 22, 3) := by decide +kernel
theorem dX3_append_18 : decode cX3_append 18 = .ok (.aload_n 0, 1) := by decide +kernel
theorem dX3_append_19 : decode cX3_append 19 = .ok (.dup, 1) := by decide +kernel
theorem dX3_append_20 : decode cX3_append 20 = .ok (.getfield 18, 3) := by decide +kernel
theorem dX3_append_23 : decode cX3_append 23 = .ok (.iconst 1, 1) := by decide +kernel
theorem dX3_append_24 : decode cX3_append 24 = .ok (.iadd, 1) := by decide +kernel
theorem dX3_append_25 : decode cX3_append 25 = .ok (.putfield 18, 3) := by decide +kernel
theorem dX3_append_28 : decode cX3_append 28 = .ok (.return_, 1) := by decide +kernel
theorem dX3_copyLetters_0 : decode cX3_copyLetters 0 = .ok (.aload_n 0, 1) := by decide +kernel
theorem dX3_copyLetters_1 : decode cX3_copyLetters 1 = .ok (.aload_n 1, 1) := by decide +kernel
theorem dX3_copyLetters_2 : decode cX3_copyLetters 2 = .ok (.getfield 18, 3) := by decide +kernel
theorem dX3_copyLetters_5 : decode cX3_copyLetters 5 = .ok (.putfield 18, 3) := by decide +kernel
theorem dX3_copyLetters_8 : decode cX3_copyLetters 8 = .ok (.iconst 0, 1) := by decide +kernel
theorem dX3_copyLetters_9 : decode cX3_copyLetters 9 = .ok (.istore_n 2, 1) := by decide +kernel
theorem dX3_copyLetters_10 : decode cX3_copyLetters 10 = .ok (.iload_n 2, 1) := by decide +kernel
theorem dX3_copyLetters_11 : decode cX3_copyLetters 11 = .ok (.aload_n 0, 1) := by decide +kernel
theorem dX3_copyLetters_12 : decode cX3_copyLetters 12 = .ok (.getfield 18, 3) := by decide +kernel
theorem dX3_copyLetters_15 : decode cX3_copyLetters 15 = .ok (.if_icmp .ge 19, 3) := by decide +kernel
theorem dX3_copyLetters_18 : decode cX3_copyLetters 18 = .ok (.aload_n 0, 1) := by decide +kernel
theorem dX3_copyLetters_19 : decode cX3_copyLetters 19 = .ok (.iload_n 2, 1) := by decide +kernel
theorem dX3_copyLetters_20 : decode cX3_copyLetters 20 = .ok (.aload_n 1, 1) := by decide +kernel
theorem dX3_copyLetters_21 : decode cX3_copyLetters 21 = .ok (.iload_n 2, 1) := by decide +kernel
theorem dX3_copyLetters_22 : decode cX3_copyLetters 22 = .ok (.invokevirtual 26, 3) := by decide +kernel
theorem dX3_copyLetters_25 : decode cX3_copyLetters 25 = .ok (.invokevirtual 22, 3) := by decide +kernel
theorem dX3_copyLetters_28 : decode cX3_copyLetters 28 = .ok (.iinc 2 1, 3) := by decide +kernel
theorem dX3_copyLetters_31 : decode cX3_copyLetters 31 = .ok (.goto (-21), 3) := by decide +kernel
theorem dX3_copyLetters_34 : decode cX3_copyLetters 34 = .ok (.return_, 1) := by decide +kernel
theorem dX3_startRow_0 : decode cX3_startRow 0 = .ok (.aload_n 0, 1) := by decide +kernel
theorem dX3_startRow_1 : decode cX3_startRow 1 = .ok (.iload_n 1, 1) := by decide +kernel
theorem dX3_startRow_2 : decode cX3_startRow 2 = .ok (.bipush 10, 2) := by decide +kernel
theorem dX3_startRow_4 : decode cX3_startRow 4 = .ok (.invokestatic 30, 3) := by decide +kernel
theorem dX3_startRow_7 : decode cX3_startRow 7 = .ok (.putfield 18, 3) := by decide +kernel
theorem dX3_startRow_10 : decode cX3_startRow 10 = .ok (.aload_n 0, 1) := by decide +kernel
theorem dX3_startRow_11 : decode cX3_startRow 11 = .ok (.getfield 9, 3) := by decide +kernel
theorem dX3_startRow_14 : decode cX3_startRow 14 = .ok (.iconst 0, 1) := by decide +kernel
theorem dX3_startRow_15 : decode cX3_startRow 15 = .ok (.invokestatic 36, 3) := by decide +kernel
theorem dX3_startRow_18 : decode cX3_startRow 18 = .ok (.return_, 1) := by decide +kernel
theorem dX3_nextRow_0 : decode cX3_nextRow 0 = .ok (.aload_n 0, 1) := by decide +kernel
theorem dX3_nextRow_1 : decode cX3_nextRow 1 = .ok (.getfield 18, 3) := by decide +kernel
theorem dX3_nextRow_4 : decode cX3_nextRow 4 = .ok (.iconst 1, 1) := by decide +kernel
theorem dX3_nextRow_5 : decode cX3_nextRow 5 = .ok (.isub, 1) := by decide +kernel
theorem dX3_nextRow_6 : decode cX3_nextRow 6 = .ok (.istore_n 2, 1) := by decide +kernel
theorem dX3_nextRow_7 : decode cX3_nextRow 7 = .ok (.iload_n 2, 1) := by decide +kernel
theorem dX3_nextRow_8 : decode cX3_nextRow 8 = .ok (.ifCond .lt 36, 3) := by decide +kernel
theorem dX3_nextRow_11 : decode cX3_nextRow 11 = .ok (.aload_n 0, 1) := by decide +kernel
theorem dX3_nextRow_12 : decode cX3_nextRow 12 = .ok (.iload_n 2, 1) := by decide +kernel
theorem dX3_nextRow_13 : decode cX3_nextRow 13 = .ok (.invokevirtual 26, 3) := by decide +kernel
theorem dX3_nextRow_16 : decode cX3_nextRow 16 = .ok (.iconst 1, 1) := by decide +kernel
theorem dX3_nextRow_17 : decode cX3_nextRow 17 = .ok (.iadd, 1) := by decide +kernel
theorem dX3_nextRow_18 : decode cX3_nextRow 18 = .ok (.istore_n 3, 1) := by decide +kernel
theorem dX3_nextRow_19 : decode cX3_nextRow 19 = .ok (.iload_n 3, 1) := by decide +kernel
theorem dX3_nextRow_20 : decode cX3_nextRow 20 = .ok (.iload_n 1, 1) := by decide +kernel
theorem dX3_nextRow_21 : decode cX3_nextRow 21 = .ok (.if_icmp .ge 11, 3) := by decide +kernel
theorem dX3_nextRow_24 : decode cX3_nextRow 24 = .ok (.aload_n 0, 1) := by decide +kernel
theorem dX3_nextRow_25 : decode cX3_nextRow 25 = .ok (.iload_n 2, 1) := by decide +kernel
theorem dX3_nextRow_26 : decode cX3_nextRow 26 = .ok (.iload_n 3, 1) := by decide +kernel
theorem dX3_nextRow_27 : decode cX3_nextRow 27 = .ok (.invokevirtual 22, 3) := by decide +kernel
theorem dX3_nextRow_30 : decode cX3_nextRow 30 = .ok (.iconst 1, 1) := by decide +kernel
theorem dX3_nextRow_31 : decode cX3_nextRow 31 = .ok (.ireturn, 1) := by decide +kernel
theorem dX3_nextRow_32 : decode cX3_nextRow 32 = .ok (.aload_n 0, 1) := by decide +kernel
theorem dX3_nextRow_33 : decode cX3_nextRow 33 = .ok (.iload_n 2, 1) := by decide +kernel
theorem dX3_nextRow_34 : decode cX3_nextRow 34 = .ok (.iconst 0, 1) := by decide +kernel
theorem dX3_nextRow_35 : decode cX3_nextRow 35 = .ok (.invokevirtual 22, 3) := by decide +kernel
theorem dX3_nextRow_38 : decode cX3_nextRow 38 = .ok (.iinc 2 (-1), 3) := by decide +kernel
theorem dX3_nextRow_41 : decode cX3_nextRow 41 = .ok (.goto (-34), 3) := by decide +kernel
theorem dX3_nextRow_44 : decode cX3_nextRow 44 = .ok (.iconst 0, 1) := by decide +kernel
theorem dX3_nextRow_45 : decode cX3_nextRow 45 = .ok (.ireturn, 1) := by decide +kernel
theorem dX3_hasLettersOf_0 : decode cX3_hasLettersOf 0 = .ok (.aload_n 0, 1) := by decide +kernel
theorem dX3_hasLettersOf_1 : decode cX3_hasLettersOf 1 = .ok (.aload_n 1, 1) := by decide +kernel
theorem dX3_hasLettersOf_2 : decode cX3_hasLettersOf 2 = .ok (.getfield 42, 3) := by decide +kernel
theorem dX3_hasLettersOf_5 : decode cX3_hasLettersOf 5 = .ok (.invokevirtual 47, 3) := by decide +kernel
theorem dX3_hasLettersOf_8 : decode cX3_hasLettersOf 8 = .ok (.ifCond .eq 29, 3) := by decide +kernel
theorem dX3_hasLettersOf_11 : decode cX3_hasLettersOf 11 = .ok (.aload_n 0, 1) := by decide +kernel
theorem dX3_hasLettersOf_12 : decode cX3_hasLettersOf 12 = .ok (.aload_n 1, 1) := by decide +kernel
theorem dX3_hasLettersOf_13 : decode cX3_hasLettersOf 13 = .ok (.getfield 51, 3) := by decide +kernel
theorem dX3_hasLettersOf_16 : decode cX3_hasLettersOf 16 = .ok (.invokevirtual 47, 3) := by decide +kernel
theorem dX3_hasLettersOf_19 : decode cX3_hasLettersOf 19 = .ok (.ifCond .eq 18, 3) := by decide +kernel
theorem dX3_hasLettersOf_22 : decode cX3_hasLettersOf 22 = .ok (.aload_n 0, 1) := by decide +kernel
theorem dX3_hasLettersOf_23 : decode cX3_hasLettersOf 23 = .ok (.aload_n 1, 1) := by decide +kernel
theorem dX3_hasLettersOf_24 : decode cX3_hasLettersOf 24 = .ok (.getfield 54, 3) := by decide +kernel
theorem dX3_hasLettersOf_27 : decode cX3_hasLettersOf 27 = .ok (.invokevirtual 47, 3) := by decide +kernel
theorem dX3_hasLettersOf_30 : decode cX3_hasLettersOf 30 = .ok (.ifCond .eq 7, 3) := by decide +kernel
theorem dX3_hasLettersOf_33 : decode cX3_hasLettersOf 33 = .ok (.iconst 1, 1) := by decide +kernel
theorem dX3_hasLettersOf_34 : decode cX3_hasLettersOf 34 = .ok (.goto 4, 3) := by decide +kernel
theorem dX3_hasLettersOf_37 : decode cX3_hasLettersOf 37 = .ok (.iconst 0, 1) := by decide +kernel
theorem dX3_hasLettersOf_38 : decode cX3_hasLettersOf 38 = .ok (.ireturn, 1) := by decide +kernel
theorem dX3_hasIfLetter_0 : decode cX3_hasIfLetter 0 = .ok (.iload_n 1, 1) := by decide +kernel
theorem dX3_hasIfLetter_1 : decode cX3_hasIfLetter 1 = .ok (.invokestatic 57, 3) := by decide +kernel
theorem dX3_hasIfLetter_4 : decode cX3_hasIfLetter 4 = .ok (.ifCond .ne 5, 3) := by decide +kernel
theorem dX3_hasIfLetter_7 : decode cX3_hasIfLetter 7 = .ok (.iconst 1, 1) := by decide +kernel
theorem dX3_hasIfLetter_8 : decode cX3_hasIfLetter 8 = .ok (.ireturn, 1) := by decide +kernel
theorem dX3_hasIfLetter_9 : decode cX3_hasIfLetter 9 = .ok (.iconst 0, 1) := by decide +kernel
theorem dX3_hasIfLetter_10 : decode cX3_hasIfLetter 10 = .ok (.istore_n 2, 1) := by decide +kernel
theorem dX3_hasIfLetter_11 : decode cX3_hasIfLetter 11 = .ok (.iload_n 2, 1) := by decide +kernel
theorem dX3_hasIfLetter_12 : decode cX3_hasIfLetter 12 = .ok (.aload_n 0, 1) := by decide +kernel
theorem dX3_hasIfLetter_13 : decode cX3_hasIfLetter 13 = .ok (.getfield 18, 3) := by decide +kernel
theorem dX3_hasIfLetter_16 : decode cX3_hasIfLetter 16 = .ok (.if_icmp .ge 20, 3) := by decide +kernel
theorem dX3_hasIfLetter_19 : decode cX3_hasIfLetter 19 = .ok (.aload_n 0, 1) := by decide +kernel
theorem dX3_hasIfLetter_20 : decode cX3_hasIfLetter 20 = .ok (.iload_n 2, 1) := by decide +kernel
theorem dX3_hasIfLetter_21 : decode cX3_hasIfLetter 21 = .ok (.invokevirtual 26, 3) := by decide +kernel
theorem dX3_hasIfLetter_24 : decode cX3_hasIfLetter 24 = .ok (.iload_n 1, 1) := by decide +kernel
theorem dX3_hasIfLetter_25 : decode cX3_hasIfLetter 25 = .ok (.if_icmp .ne 5, 3) := by decide +kernel
theorem dX3_hasIfLetter_28 : decode cX3_hasIfLetter 28 = .ok (.iconst 1, 1) := by decide +kernel
theorem dX3_hasIfLetter_29 : decode cX3_hasIfLetter 29 = .ok (.ireturn, 1) := by decide +kernel
theorem dX3_hasIfLetter_30 : decode cX3_hasIfLetter 30 = .ok (.iinc 2 1, 3) := by decide +kernel
theorem dX3_hasIfLetter_33 : decode cX3_hasIfLetter 33 = .ok (.goto (-22), 3) := by decide +kernel
theorem dX3_hasIfLetter_36 : decode cX3_hasIfLetter 36 = .ok (.iconst 0, 1) := by decide +kernel
theorem dX3_hasIfLetter_37 : decode cX3_hasIfLetter 37 = .ok (.ireturn, 1) := by decide +kernel
theorem dX3_findAll_0 : decode cX3_findAll 0 = .ok (.iconst 0, 1) := by decide +kernel
theorem dX3_findAll_1 : decode cX3_findAll 1 = .ok (.istore_n 2, 1) := by decide +kernel
theorem dX3_findAll_2 : decode cX3_findAll 2 = .ok (.iconst 1, 1) := by decide +kernel
theorem dX3_findAll_3 : decode cX3_findAll 3 = .ok (.istore_n 3, 1) := by decide +kernel
theorem dX3_findAll_4 : decode cX3_findAll 4 = .ok (.iload_n 3, 1) := by decide +kernel
theorem dX3_findAll_5 : decode cX3_findAll 5 = .ok (.aload_n 0, 1) := by decide +kernel
theorem dX3_findAll_6 : decode cX3_findAll 6 = .ok (.getfield 18, 3) := by decide +kernel
theorem dX3_findAll_9 : decode cX3_findAll 9 = .ok (.if_icmp .gt 45, 3) := by decide +kernel
theorem dX3_findAll_12 : decode cX3_findAll 12 = .ok (.iconst 0, 1) := by decide +kernel
theorem dX3_findAll_13 : decode cX3_findAll 13 = .ok (.istore 4, 2) := by decide +kernel
theorem dX3_findAll_15 : decode cX3_findAll 15 = .ok (.iload 4, 2) := by decide +kernel
theorem dX3_findAll_17 : decode cX3_findAll 17 = .ok (.iload_n 3, 1) := by decide +kernel
theorem dX3_findAll_18 : decode cX3_findAll 18 = .ok (.iadd, 1) := by decide +kernel
theorem dX3_findAll_19 : decode cX3_findAll 19 = .ok (.aload_n 0, 1) := by decide +kernel
theorem dX3_findAll_20 : decode cX3_findAll 20 = .ok (.getfield 18, 3) := by decide +kernel
theorem dX3_findAll_23 : decode cX3_findAll 23 = .ok (.if_icmp .gt 25, 3) := by decide +kernel
theorem dX3_findAll_26 : decode cX3_findAll 26 = .ok (.aload_n 0, 1) := by decide +kernel
theorem dX3_findAll_27 : decode cX3_findAll 27 = .ok (.aload_n 1, 1) := by decide +kernel
theorem dX3_findAll_28 : decode cX3_findAll 28 = .ok (.iload 4, 2) := by decide +kernel
theorem dX3_findAll_30 : decode cX3_findAll 30 = .ok (.iload 4, 2) := by decide +kernel
theorem dX3_findAll_32 : decode cX3_findAll 32 = .ok (.iload_n 3, 1) := by decide +kernel
theorem dX3_findAll_33 : decode cX3_findAll 33 = .ok (.iadd, 1) := by decide +kernel
theorem dX3_findAll_34 : decode cX3_findAll 34 = .ok (.iconst 1, 1) := by decide +kernel
theorem dX3_findAll_35 : decode cX3_findAll 35 = .ok (.isub, 1) := by decide +kernel
theorem dX3_findAll_36 : decode cX3_findAll 36 = .ok (.invokevirtual 60, 3) := by decide +kernel
theorem dX3_findAll_39 : decode cX3_findAll 39 = .ok (.iinc 2 1, 3) := by decide +kernel
theorem dX3_findAll_42 : decode cX3_findAll 42 = .ok (.iinc 4 1, 3) := by decide +kernel
theorem dX3_findAll_45 : decode cX3_findAll 45 = .ok (.goto (-30), 3) := by decide +kernel
theorem dX3_findAll_48 : decode cX3_findAll 48 = .ok (.iinc 3 1, 3) := by decide +kernel
theorem dX3_findAll_51 : decode cX3_findAll 51 = .ok (.goto (-47), 3) := by decide +kernel
theorem dX3_findAll_54 : decode cX3_findAll 54 = .ok (.iload_n 2, 1) := by decide +kernel
theorem dX3_findAll_55 : decode cX3_findAll 55 = .ok (.ireturn, 1) := by decide +kernel
theorem dX3_findHaving_0 : decode cX3_findHaving 0 = .ok (.iconst 0, 1) := by decide +kernel
theorem dX3_findHaving_1 : decode cX3_findHaving 1 = .ok (.istore_n 3, 1) := by decide +kernel
theorem dX3_findHaving_2 : decode cX3_findHaving 2 = .ok (.iconst 1, 1) := by decide +kernel
theorem dX3_findHaving_3 : decode cX3_findHaving 3 = .ok (.istore 4, 2) := by decide +kernel
theorem dX3_findHaving_5 : decode cX3_findHaving 5 = .ok (.iload 4, 2) := by decide +kernel
theorem dX3_findHaving_7 : decode cX3_findHaving 7 = .ok (.aload_n 0, 1) := by decide +kernel
theorem dX3_findHaving_8 : decode cX3_findHaving 8 = .ok (.getfield 18, 3) := by decide +kernel
theorem dX3_findHaving_11 : decode cX3_findHaving 11 = .ok (.if_icmp .gt 64, 3) := by decide +kernel
theorem dX3_findHaving_14 : decode cX3_findHaving 14 = .ok (.iload_n 2, 1) := by decide +kernel
theorem dX3_findHaving_15 : decode cX3_findHaving 15 = .ok (.aload_n 0, 1) := by decide +kernel
theorem dX3_findHaving_16 : decode cX3_findHaving 16 = .ok (.getfield 18, 3) := by decide +kernel
theorem dX3_findHaving_19 : decode cX3_findHaving 19 = .ok (.iload 4, 2) := by decide +kernel
theorem dX3_findHaving_21 : decode cX3_findHaving 21 = .ok (.isub, 1) := by decide +kernel
theorem dX3_findHaving_22 : decode cX3_findHaving 22 = .ok (.invokestatic 30, 3) := by decide +kernel
theorem dX3_findHaving_25 : decode cX3_findHaving 25 = .ok (.istore 5, 2) := by decide +kernel
theorem dX3_findHaving_27 : decode cX3_findHaving 27 = .ok (.iconst 0, 1) := by decide +kernel
theorem dX3_findHaving_28 : decode cX3_findHaving 28 = .ok (.iload_n 2, 1) := by decide +kernel
theorem dX3_findHaving_29 : decode cX3_findHaving 29 = .ok (.iload 4, 2) := by decide +kernel
theorem dX3_findHaving_31 : decode cX3_findHaving 31 = .ok (.isub, 1) := by decide +kernel
theorem dX3_findHaving_32 : decode cX3_findHaving 32 = .ok (.iconst 1, 1) := by decide +kernel
theorem dX3_findHaving_33 : decode cX3_findHaving 33 = .ok (.iadd, 1) := by decide +kernel
theorem dX3_findHaving_34 : decode cX3_findHaving 34 = .ok (.invokestatic 64, 3) := by decide +kernel
theorem dX3_findHaving_37 : decode cX3_findHaving 37 = .ok (.istore 6, 2) := by decide +kernel
theorem dX3_findHaving_39 : decode cX3_findHaving 39 = .ok (.iload 6, 2) := by decide +kernel
theorem dX3_findHaving_41 : decode cX3_findHaving 41 = .ok (.iload 5, 2) := by decide +kernel
theorem dX3_findHaving_43 : decode cX3_findHaving 43 = .ok (.if_icmp .gt 26, 3) := by decide +kernel
theorem dX3_findHaving_46 : decode cX3_findHaving 46 = .ok (.aload_n 0, 1) := by decide +kernel
theorem dX3_findHaving_47 : decode cX3_findHaving 47 = .ok (.aload_n 1, 1) := by decide +kernel
theorem dX3_findHaving_48 : decode cX3_findHaving 48 = .ok (.iload 6, 2) := by decide +kernel
theorem dX3_findHaving_50 : decode cX3_findHaving 50 = .ok (.iload 6, 2) := by decide +kernel
theorem dX3_findHaving_52 : decode cX3_findHaving 52 = .ok (.iload 4, 2) := by decide +kernel
theorem dX3_findHaving_54 : decode cX3_findHaving 54 = .ok (.iadd, 1) := by decide +kernel
theorem dX3_findHaving_55 : decode cX3_findHaving 55 = .ok (.iconst 1, 1) := by decide +kernel
theorem dX3_findHaving_56 : decode cX3_findHaving 56 = .ok (.isub, 1) := by decide +kernel
theorem dX3_findHaving_57 : decode cX3_findHaving 57 = .ok (.invokevirtual 60, 3) := by decide +kernel
theorem dX3_findHaving_60 : decode cX3_findHaving 60 = .ok (.iinc 3 1, 3) := by decide +kernel
theorem dX3_findHaving_63 : decode cX3_findHaving 63 = .ok (.iinc 6 1, 3) := by decide +kernel
theorem dX3_findHaving_66 : decode cX3_findHaving 66 = .ok (.goto (-27), 3) := by decide +kernel
theorem dX3_findHaving_69 : decode cX3_findHaving 69 = .ok (.iinc 4 1, 3) := by decide +kernel
theorem dX3_findHaving_72 : decode cX3_findHaving 72 = .ok (.goto (-67), 3) := by decide +kernel
theorem dX3_findHaving_75 : decode cX3_findHaving 75 = .ok (.iload_n 3, 1) := by decide +kernel
theorem dX3_findHaving_76 : decode cX3_findHaving 76 = .ok (.ireturn, 1) := by decide +kernel
theorem dX3_findSpan_0 : decode cX3_findSpan 0 = .ok (.bipush 14, 2) := by decide +kernel
theorem dX3_findSpan_2 : decode cX3_findSpan 2 = .ok (.istore 4, 2) := by decide +kernel
theorem dX3_findSpan_4 : decode cX3_findSpan 4 = .ok (.iload 4, 2) := by decide +kernel
theorem dX3_findSpan_6 : decode cX3_findSpan 6 = .ok (.bipush 10, 2) := by decide +kernel
theorem dX3_findSpan_8 : decode cX3_findSpan 8 = .ok (.if_icmp .lt 102, 3) := by decide +kernel
theorem dX3_findSpan_11 : decode cX3_findSpan 11 = .ok (.iconst 0, 1) := by decide +kernel
theorem dX3_findSpan_12 : decode cX3_findSpan 12 = .ok (.istore 5, 2) := by decide +kernel
theorem dX3_findSpan_14 : decode cX3_findSpan 14 = .ok (.iconst 0, 1) := by decide +kernel
theorem dX3_findSpan_15 : decode cX3_findSpan 15 = .ok (.istore 6, 2) := by decide +kernel
theorem dX3_findSpan_17 : decode cX3_findSpan 17 = .ok (.iload 6, 2) := by decide +kernel
theorem dX3_findSpan_19 : decode cX3_findSpan 19 = .ok (.aload_n 1, 1) := by decide +kernel
theorem dX3_findSpan_20 : decode cX3_findSpan 20 = .ok (.getfield 67, 3) := by decide +kernel
theorem dX3_findSpan_23 : decode cX3_findSpan 23 = .ok (.if_icmp .ge 48, 3) := by decide +kernel
theorem dX3_findSpan_26 : decode cX3_findSpan 26 = .ok (.aload_n 1, 1) := by decide +kernel
theorem dX3_findSpan_27 : decode cX3_findSpan 27 = .ok (.iload 6, 2) := by decide +kernel
theorem dX3_findSpan_29 : decode cX3_findSpan 29 = .ok (.invokevirtual 72, 3) := by decide +kernel
theorem dX3_findSpan_32 : decode cX3_findSpan 32 = .ok (.astore 7, 2) := by decide +kernel
theorem dX3_findSpan_34 : decode cX3_findSpan 34 = .ok (.aload 7, 2) := by decide +kernel
theorem dX3_findSpan_36 : decode cX3_findSpan 36 = .ok (.ifnull 29, 3) := by decide +kernel
theorem dX3_findSpan_39 : decode cX3_findSpan 39 = .ok (.aload 7, 2) := by decide +kernel
theorem dX3_findSpan_41 : decode cX3_findSpan 41 = .ok (.getfield 76, 3) := by decide +kernel
theorem dX3_findSpan_44 : decode cX3_findSpan 44 = .ok (.iload 4, 2) := by decide +kernel
theorem dX3_findSpan_46 : decode cX3_findSpan 46 = .ok (.if_icmp .ne 19, 3) := by decide +kernel
theorem dX3_findSpan_49 : decode cX3_findSpan 49 = .ok (.iload 5, 2) := by decide +kernel
theorem dX3_findSpan_51 : decode cX3_findSpan 51 = .ok (.aload_n 0, 1) := by decide +kernel
theorem dX3_findSpan_52 : decode cX3_findSpan 52 = .ok (.aload 7, 2) := by decide +kernel
theorem dX3_findSpan_54 : decode cX3_findSpan 54 = .ok (.iload_n 2, 1) := by decide +kernel
theorem dX3_findSpan_55 : decode cX3_findSpan 55 = .ok (.iload_n 3, 1) := by decide +kernel
theorem dX3_findSpan_56 : decode cX3_findSpan 56 = .ok (.invokevirtual 79, 3) := by decide +kernel
theorem dX3_findSpan_59 : decode cX3_findSpan 59 = .ok (.iadd, 1) := by decide +kernel
theorem dX3_findSpan_60 : decode cX3_findSpan 60 = .ok (.invokestatic 83, 3) := by decide +kernel
theorem dX3_findSpan_63 : decode cX3_findSpan 63 = .ok (.istore 5, 2) := by decide +kernel
theorem dX3_findSpan_65 : decode cX3_findSpan 65 = .ok (.iinc 6 1, 3) := by decide +kernel
theorem dX3_findSpan_68 : decode cX3_findSpan 68 = .ok (.goto (-51), 3) := by decide +kernel
theorem dX3_findSpan_71 : decode cX3_findSpan 71 = .ok (.iload 4, 2) := by decide +kernel
theorem dX3_findSpan_73 : decode cX3_findSpan 73 = .ok (.iload_n 2, 1) := by decide +kernel
theorem dX3_findSpan_74 : decode cX3_findSpan 74 = .ok (.iload_n 3, 1) := by decide +kernel
theorem dX3_findSpan_75 : decode cX3_findSpan 75 = .ok (.invokestatic 86, 3) := by decide +kernel
theorem dX3_findSpan_78 : decode cX3_findSpan 78 = .ok (.istore 6, 2) := by decide +kernel
theorem dX3_findSpan_80 : decode cX3_findSpan 80 = .ok (.iload 6, 2) := by decide +kernel
theorem dX3_findSpan_82 : decode cX3_findSpan 82 = .ok (.ifCond .lt 22, 3) := by decide +kernel
theorem dX3_findSpan_85 : decode cX3_findSpan 85 = .ok (.iload 6, 2) := by decide +kernel
theorem dX3_findSpan_87 : decode cX3_findSpan 87 = .ok (.aload_n 0, 1) := by decide +kernel
theorem dX3_findSpan_88 : decode cX3_findSpan 88 = .ok (.getfield 15, 3) := by decide +kernel
theorem dX3_findSpan_91 : decode cX3_findSpan 91 = .ok (.arraylength, 1) := by decide +kernel
theorem dX3_findSpan_92 : decode cX3_findSpan 92 = .ok (.if_icmp .ge 12, 3) := by decide +kernel
theorem dX3_findSpan_95 : decode cX3_findSpan 95 = .ok (.aload_n 0, 1) := by decide +kernel
theorem dX3_findSpan_96 : decode cX3_findSpan 96 = .ok (.getfield 15, 3) := by decide +kernel
theorem dX3_findSpan_99 : decode cX3_findSpan 99 = .ok (.iload 6, 2) := by decide +kernel
theorem dX3_findSpan_101 : decode cX3_findSpan 101 = .ok (.iload 5, 2) := by decide +kernel
theorem dX3_findSpan_103 : decode cX3_findSpan 103 = .ok (.iastore, 1) := by decide +kernel
theorem dX3_findSpan_104 : decode cX3_findSpan 104 = .ok (.iinc 4 (-1), 3) := by decide +kernel
theorem dX3_findSpan_107 : decode cX3_findSpan 107 = .ok (.goto (-103), 3) := by decide +kernel
theorem dX3_findSpan_110 : decode cX3_findSpan 110 = .ok (.return_, 1) := by decide +kernel
theorem dX3_treesOfAll_0 : decode cX3_treesOfAll 0 = .ok (.aload_n 0, 1) := by decide +kernel
theorem dX3_treesOfAll_1 : decode cX3_treesOfAll 1 = .ok (.bipush 10, 2) := by decide +kernel
theorem dX3_treesOfAll_3 : decode cX3_treesOfAll 3 = .ok (.iconst 0, 1) := by decide +kernel
theorem dX3_treesOfAll_4 : decode cX3_treesOfAll 4 = .ok (.aload_n 0, 1) := by decide +kernel
theorem dX3_treesOfAll_5 : decode cX3_treesOfAll 5 = .ok (.getfield 18, 3) := by decide +kernel
theorem dX3_treesOfAll_8 : decode cX3_treesOfAll 8 = .ok (.iconst 1, 1) := by decide +kernel
theorem dX3_treesOfAll_9 : decode cX3_treesOfAll 9 = .ok (.isub, 1) := by decide +kernel
theorem dX3_treesOfAll_10 : decode cX3_treesOfAll 10 = .ok (.invokevirtual 90, 3) := by decide +kernel
theorem dX3_treesOfAll_13 : decode cX3_treesOfAll 13 = .ok (.ireturn, 1) := by decide +kernel
theorem dX3_treesOf_0 : decode cX3_treesOf 0 = .ok (.iload_n 1, 1) := by decide +kernel
theorem dX3_treesOf_1 : decode cX3_treesOf 1 = .ok (.iconst (-1), 1) := by decide +kernel
theorem dX3_treesOf_2 : decode cX3_treesOf 2 = .ok (.if_icmp .ne 14, 3) := by decide +kernel
theorem dX3_treesOf_5 : decode cX3_treesOf 5 = .ok (.iload_n 2, 1) := by decide +kernel
theorem dX3_treesOf_6 : decode cX3_treesOf 6 = .ok (.iload_n 3, 1) := by decide +kernel
theorem dX3_treesOf_7 : decode cX3_treesOf 7 = .ok (.if_icmp .le 7, 3) := by decide +kernel
theorem dX3_treesOf_10 : decode cX3_treesOf 10 = .ok (.iconst 1, 1) := by decide +kernel
theorem dX3_treesOf_11 : decode cX3_treesOf 11 = .ok (.goto 4, 3) := by decide +kernel
theorem dX3_treesOf_14 : decode cX3_treesOf 14 = .ok (.iconst 0, 1) := by decide +kernel
theorem dX3_treesOf_15 : decode cX3_treesOf 15 = .ok (.ireturn, 1) := by decide +kernel
theorem dX3_treesOf_16 : decode cX3_treesOf 16 = .ok (.iload_n 2, 1) := by decide +kernel
theorem dX3_treesOf_17 : decode cX3_treesOf 17 = .ok (.ifCond .lt 24, 3) := by decide +kernel
theorem dX3_treesOf_20 : decode cX3_treesOf 20 = .ok (.iload_n 3, 1) := by decide +kernel
theorem dX3_treesOf_21 : decode cX3_treesOf 21 = .ok (.iload_n 2, 1) := by decide +kernel
theorem dX3_treesOf_22 : decode cX3_treesOf 22 = .ok (.if_icmp .lt 19, 3) := by decide +kernel
theorem dX3_treesOf_25 : decode cX3_treesOf 25 = .ok (.iload_n 3, 1) := by decide +kernel
theorem dX3_treesOf_26 : decode cX3_treesOf 26 = .ok (.bipush 10, 2) := by decide +kernel
theorem dX3_treesOf_28 : decode cX3_treesOf 28 = .ok (.if_icmp .ge 13, 3) := by decide +kernel
theorem dX3_treesOf_31 : decode cX3_treesOf 31 = .ok (.iload_n 1, 1) := by decide +kernel
theorem dX3_treesOf_32 : decode cX3_treesOf 32 = .ok (.ifCond .lt 9, 3) := by decide +kernel
theorem dX3_treesOf_35 : decode cX3_treesOf 35 = .ok (.iload_n 1, 1) := by decide +kernel
theorem dX3_treesOf_36 : decode cX3_treesOf 36 = .ok (.bipush 15, 2) := by decide +kernel
theorem dX3_treesOf_38 : decode cX3_treesOf 38 = .ok (.if_icmp .lt 5, 3) := by decide +kernel
theorem dX3_treesOf_41 : decode cX3_treesOf 41 = .ok (.iconst 0, 1) := by decide +kernel
theorem dX3_treesOf_42 : decode cX3_treesOf 42 = .ok (.ireturn, 1) := by decide +kernel
theorem dX3_treesOf_43 : decode cX3_treesOf 43 = .ok (.iload_n 1, 1) := by decide +kernel
theorem dX3_treesOf_44 : decode cX3_treesOf 44 = .ok (.bipush 10, 2) := by decide +kernel
theorem dX3_treesOf_46 : decode cX3_treesOf 46 = .ok (.if_icmp .ge 24, 3) := by decide +kernel
theorem dX3_treesOf_49 : decode cX3_treesOf 49 = .ok (.iload_n 2, 1) := by decide +kernel
theorem dX3_treesOf_50 : decode cX3_treesOf 50 = .ok (.iload_n 3, 1) := by decide +kernel
theorem dX3_treesOf_51 : decode cX3_treesOf 51 = .ok (.if_icmp .ne 17, 3) := by decide +kernel
theorem dX3_treesOf_54 : decode cX3_treesOf 54 = .ok (.aload_n 0, 1) := by decide +kernel
theorem dX3_treesOf_55 : decode cX3_treesOf 55 = .ok (.getfield 9, 3) := by decide +kernel
theorem dX3_treesOf_58 : decode cX3_treesOf 58 = .ok (.iload_n 2, 1) := by decide +kernel
theorem dX3_treesOf_59 : decode cX3_treesOf 59 = .ok (.iaload, 1) := by decide +kernel
theorem dX3_treesOf_60 : decode cX3_treesOf 60 = .ok (.iload_n 1, 1) := by decide +kernel
theorem dX3_treesOf_61 : decode cX3_treesOf 61 = .ok (.if_icmp .ne 7, 3) := by decide +kernel
theorem dX3_treesOf_64 : decode cX3_treesOf 64 = .ok (.iconst 1, 1) := by decide +kernel
theorem dX3_treesOf_65 : decode cX3_treesOf 65 = .ok (.goto 4, 3) := by decide +kernel
theorem dX3_treesOf_68 : decode cX3_treesOf 68 = .ok (.iconst 0, 1) := by decide +kernel
theorem dX3_treesOf_69 : decode cX3_treesOf 69 = .ok (.ireturn, 1) := by decide +kernel
theorem dX3_treesOf_70 : decode cX3_treesOf 70 = .ok (.aload_n 0, 1) := by decide +kernel
theorem dX3_treesOf_71 : decode cX3_treesOf 71 = .ok (.getfield 15, 3) := by decide +kernel
theorem dX3_treesOf_74 : decode cX3_treesOf 74 = .ok (.iload_n 1, 1) := by decide +kernel
theorem dX3_treesOf_75 : decode cX3_treesOf 75 = .ok (.bipush 10, 2) := by decide +kernel
theorem dX3_treesOf_77 : decode cX3_treesOf 77 = .ok (.isub, 1) := by decide +kernel
theorem dX3_treesOf_78 : decode cX3_treesOf 78 = .ok (.bipush 10, 2) := by decide +kernel
theorem dX3_treesOf_80 : decode cX3_treesOf 80 = .ok (.imul, 1) := by decide +kernel
theorem dX3_treesOf_81 : decode cX3_treesOf 81 = .ok (.iload_n 2, 1) := by decide +kernel
theorem dX3_treesOf_82 : decode cX3_treesOf 82 = .ok (.iadd, 1) := by decide +kernel
theorem dX3_treesOf_83 : decode cX3_treesOf 83 = .ok (.bipush 10, 2) := by decide +kernel
theorem dX3_treesOf_85 : decode cX3_treesOf 85 = .ok (.imul, 1) := by decide +kernel
theorem dX3_treesOf_86 : decode cX3_treesOf 86 = .ok (.iload_n 3, 1) := by decide +kernel
theorem dX3_treesOf_87 : decode cX3_treesOf 87 = .ok (.iadd, 1) := by decide +kernel
theorem dX3_treesOf_88 : decode cX3_treesOf 88 = .ok (.iaload, 1) := by decide +kernel
theorem dX3_treesOf_89 : decode cX3_treesOf 89 = .ok (.ireturn, 1) := by decide +kernel
theorem dX3_treesByRule_0 : decode cX3_treesByRule 0 = .ok (.iconst 0, 1) := by decide +kernel
theorem dX3_treesByRule_1 : decode cX3_treesByRule 1 = .ok (.istore 4, 2) := by decide +kernel
theorem dX3_treesByRule_3 : decode cX3_treesByRule 3 = .ok (.aload_n 1, 1) := by decide +kernel
theorem dX3_treesByRule_4 : decode cX3_treesByRule 4 = .ok (.getfield 51, 3) := by decide +kernel
theorem dX3_treesByRule_7 : decode cX3_treesByRule 7 = .ok (.iconst (-1), 1) := by decide +kernel
theorem dX3_treesByRule_8 : decode cX3_treesByRule 8 = .ok (.if_icmp .ne 7, 3) := by decide +kernel
theorem dX3_treesByRule_11 : decode cX3_treesByRule 11 = .ok (.iload_n 3, 1) := by decide +kernel
theorem dX3_treesByRule_12 : decode cX3_treesByRule 12 = .ok (.goto 4, 3) := by decide +kernel
theorem dX3_treesByRule_15 : decode cX3_treesByRule 15 = .ok (.iload_n 2, 1) := by decide +kernel
theorem dX3_treesByRule_16 : decode cX3_treesByRule 16 = .ok (.istore 5, 2) := by decide +kernel
theorem dX3_treesByRule_18 : decode cX3_treesByRule 18 = .ok (.iload 5, 2) := by decide +kernel
theorem dX3_treesByRule_20 : decode cX3_treesByRule 20 = .ok (.iload_n 3, 1) := by decide +kernel
theorem dX3_treesByRule_21 : decode cX3_treesByRule 21 = .ok (.if_icmp .gt 104, 3) := by decide +kernel
theorem dX3_treesByRule_24 : decode cX3_treesByRule 24 = .ok (.aload_n 0, 1) := by decide +kernel
theorem dX3_treesByRule_25 : decode cX3_treesByRule 25 = .ok (.aload_n 1, 1) := by decide +kernel
theorem dX3_treesByRule_26 : decode cX3_treesByRule 26 = .ok (.getfield 42, 3) := by decide +kernel
theorem dX3_treesByRule_29 : decode cX3_treesByRule 29 = .ok (.iload_n 2, 1) := by decide +kernel
theorem dX3_treesByRule_30 : decode cX3_treesByRule 30 = .ok (.iload 5, 2) := by decide +kernel
theorem dX3_treesByRule_32 : decode cX3_treesByRule 32 = .ok (.invokevirtual 90, 3) := by decide +kernel
theorem dX3_treesByRule_35 : decode cX3_treesByRule 35 = .ok (.istore 6, 2) := by decide +kernel
theorem dX3_treesByRule_37 : decode cX3_treesByRule 37 = .ok (.aload_n 1, 1) := by decide +kernel
theorem dX3_treesByRule_38 : decode cX3_treesByRule 38 = .ok (.getfield 54, 3) := by decide +kernel
theorem dX3_treesByRule_41 : decode cX3_treesByRule 41 = .ok (.iconst (-1), 1) := by decide +kernel
theorem dX3_treesByRule_42 : decode cX3_treesByRule 42 = .ok (.if_icmp .ne 7, 3) := by decide +kernel
theorem dX3_treesByRule_45 : decode cX3_treesByRule 45 = .ok (.iload_n 3, 1) := by decide +kernel
theorem dX3_treesByRule_46 : decode cX3_treesByRule 46 = .ok (.goto 5, 3) := by decide +kernel
theorem dX3_treesByRule_49 : decode cX3_treesByRule 49 = .ok (.iload 5, 2) := by decide +kernel
theorem dX3_treesByRule_51 : decode cX3_treesByRule 51 = .ok (.istore 7, 2) := by decide +kernel
theorem dX3_treesByRule_53 : decode cX3_treesByRule 53 = .ok (.iload 6, 2) := by decide +kernel
theorem dX3_treesByRule_55 : decode cX3_treesByRule 55 = .ok (.ifCond .le 64, 3) := by decide +kernel
theorem dX3_treesByRule_58 : decode cX3_treesByRule 58 = .ok (.iload 7, 2) := by decide +kernel
theorem dX3_treesByRule_60 : decode cX3_treesByRule 60 = .ok (.iload_n 3, 1) := by decide +kernel
theorem dX3_treesByRule_61 : decode cX3_treesByRule 61 = .ok (.if_icmp .gt 58, 3) := by decide +kernel
theorem dX3_treesByRule_64 : decode cX3_treesByRule 64 = .ok (.iload 6, 2) := by decide +kernel
theorem dX3_treesByRule_66 : decode cX3_treesByRule 66 = .ok (.aload_n 0, 1) := by decide +kernel
theorem dX3_treesByRule_67 : decode cX3_treesByRule 67 = .ok (.aload_n 1, 1) := by decide +kernel
theorem dX3_treesByRule_68 : decode cX3_treesByRule 68 = .ok (.getfield 51, 3) := by decide +kernel
theorem dX3_treesByRule_71 : decode cX3_treesByRule 71 = .ok (.iload 5, 2) := by decide +kernel
theorem dX3_treesByRule_73 : decode cX3_treesByRule 73 = .ok (.iconst 1, 1) := by decide +kernel
theorem dX3_treesByRule_74 : decode cX3_treesByRule 74 = .ok (.iadd, 1) := by decide +kernel
theorem dX3_treesByRule_75 : decode cX3_treesByRule 75 = .ok (.iload 7, 2) := by decide +kernel
theorem dX3_treesByRule_77 : decode cX3_treesByRule 77 = .ok (.invokevirtual 90, 3) := by decide +kernel
theorem dX3_treesByRule_80 : decode cX3_treesByRule 80 = .ok (.imul, 1) := by decide +kernel
theorem dX3_treesByRule_81 : decode cX3_treesByRule 81 = .ok (.invokestatic 83, 3) := by decide +kernel
theorem dX3_treesByRule_84 : decode cX3_treesByRule 84 = .ok (.istore 8, 2) := by decide +kernel
theorem dX3_treesByRule_86 : decode cX3_treesByRule 86 = .ok (.iload 4, 2) := by decide +kernel
theorem dX3_treesByRule_88 : decode cX3_treesByRule 88 = .ok (.iload 8, 2) := by decide +kernel
theorem dX3_treesByRule_90 : decode cX3_treesByRule 90 = .ok (.aload_n 0, 1) := by decide +kernel
theorem dX3_treesByRule_91 : decode cX3_treesByRule 91 = .ok (.aload_n 1, 1) := by decide +kernel
theorem dX3_treesByRule_92 : decode cX3_treesByRule 92 = .ok (.getfield 54, 3) := by decide +kernel
theorem dX3_treesByRule_95 : decode cX3_treesByRule 95 = .ok (.iload 7, 2) := by decide +kernel
theorem dX3_treesByRule_97 : decode cX3_treesByRule 97 = .ok (.iconst 1, 1) := by decide +kernel
theorem dX3_treesByRule_98 : decode cX3_treesByRule 98 = .ok (.iadd, 1) := by decide +kernel
theorem dX3_treesByRule_99 : decode cX3_treesByRule 99 = .ok (.iload_n 3, 1) := by decide +kernel
theorem dX3_treesByRule_100 : decode cX3_treesByRule 100 = .ok (.invokevirtual 90, 3) := by decide +kernel
theorem dX3_treesByRule_103 : decode cX3_treesByRule 103 = .ok (.imul, 1) := by decide +kernel
theorem dX3_treesByRule_104 : decode cX3_treesByRule 104 = .ok (.invokestatic 83, 3) := by decide +kernel
theorem dX3_treesByRule_107 : decode cX3_treesByRule 107 = .ok (.iadd, 1) := by decide +kernel
theorem dX3_treesByRule_108 : decode cX3_treesByRule 108 = .ok (.invokestatic 83, 3) := by decide +kernel
theorem dX3_treesByRule_111 : decode cX3_treesByRule 111 = .ok (.istore 4, 2) := by decide +kernel
theorem dX3_treesByRule_113 : decode cX3_treesByRule 113 = .ok (.iinc 7 1, 3) := by decide +kernel
theorem dX3_treesByRule_116 : decode cX3_treesByRule 116 = .ok (.goto (-63), 3) := by decide +kernel
theorem dX3_treesByRule_119 : decode cX3_treesByRule 119 = .ok (.iinc 5 1, 3) := by decide +kernel
theorem dX3_treesByRule_122 : decode cX3_treesByRule 122 = .ok (.goto (-104), 3) := by decide +kernel
theorem dX3_treesByRule_125 : decode cX3_treesByRule 125 = .ok (.iload 4, 2) := by decide +kernel
theorem dX3_treesByRule_127 : decode cX3_treesByRule 127 = .ok (.ireturn, 1) := by decide +kernel
theorem dX3_splitOf_0 : decode cX3_splitOf 0 = .ok (.aload_n 1, 1) := by decide +kernel
theorem dX3_splitOf_1 : decode cX3_splitOf 1 = .ok (.getfield 51, 3) := by decide +kernel
theorem dX3_splitOf_4 : decode cX3_splitOf 4 = .ok (.iconst (-1), 1) := by decide +kernel
theorem dX3_splitOf_5 : decode cX3_splitOf 5 = .ok (.if_icmp .ne 7, 3) := by decide +kernel
theorem dX3_splitOf_8 : decode cX3_splitOf 8 = .ok (.iload_n 3, 1) := by decide +kernel
theorem dX3_splitOf_9 : decode cX3_splitOf 9 = .ok (.goto 4, 3) := by decide +kernel
theorem dX3_splitOf_12 : decode cX3_splitOf 12 = .ok (.iload_n 2, 1) := by decide +kernel
theorem dX3_splitOf_13 : decode cX3_splitOf 13 = .ok (.istore 4, 2) := by decide +kernel
theorem dX3_splitOf_15 : decode cX3_splitOf 15 = .ok (.iload 4, 2) := by decide +kernel
theorem dX3_splitOf_17 : decode cX3_splitOf 17 = .ok (.iload_n 3, 1) := by decide +kernel
theorem dX3_splitOf_18 : decode cX3_splitOf 18 = .ok (.if_icmp .gt 105, 3) := by decide +kernel
theorem dX3_splitOf_21 : decode cX3_splitOf 21 = .ok (.aload_n 0, 1) := by decide +kernel
theorem dX3_splitOf_22 : decode cX3_splitOf 22 = .ok (.aload_n 1, 1) := by decide +kernel
theorem dX3_splitOf_23 : decode cX3_splitOf 23 = .ok (.getfield 42, 3) := by decide +kernel
theorem dX3_splitOf_26 : decode cX3_splitOf 26 = .ok (.iload_n 2, 1) := by decide +kernel
theorem dX3_splitOf_27 : decode cX3_splitOf 27 = .ok (.iload 4, 2) := by decide +kernel
theorem dX3_splitOf_29 : decode cX3_splitOf 29 = .ok (.invokevirtual 90, 3) := by decide +kernel
theorem dX3_splitOf_32 : decode cX3_splitOf 32 = .ok (.ifCond .le 7, 3) := by decide +kernel
theorem dX3_splitOf_35 : decode cX3_splitOf 35 = .ok (.iconst 1, 1) := by decide +kernel
theorem dX3_splitOf_36 : decode cX3_splitOf 36 = .ok (.goto 4, 3) := by decide +kernel
theorem dX3_splitOf_39 : decode cX3_splitOf 39 = .ok (.iconst 0, 1) := by decide +kernel
theorem dX3_splitOf_40 : decode cX3_splitOf 40 = .ok (.istore 5, 2) := by decide +kernel
theorem dX3_splitOf_42 : decode cX3_splitOf 42 = .ok (.aload_n 1, 1) := by decide +kernel
theorem dX3_splitOf_43 : decode cX3_splitOf 43 = .ok (.getfield 54, 3) := by decide +kernel
theorem dX3_splitOf_46 : decode cX3_splitOf 46 = .ok (.iconst (-1), 1) := by decide +kernel
theorem dX3_splitOf_47 : decode cX3_splitOf 47 = .ok (.if_icmp .ne 7, 3) := by decide +kernel
theorem dX3_splitOf_50 : decode cX3_splitOf 50 = .ok (.iload_n 3, 1) := by decide +kernel
theorem dX3_splitOf_51 : decode cX3_splitOf 51 = .ok (.goto 5, 3) := by decide +kernel
theorem dX3_splitOf_54 : decode cX3_splitOf 54 = .ok (.iload 4, 2) := by decide +kernel
theorem dX3_splitOf_56 : decode cX3_splitOf 56 = .ok (.istore 6, 2) := by decide +kernel
theorem dX3_splitOf_58 : decode cX3_splitOf 58 = .ok (.iload 5, 2) := by decide +kernel
theorem dX3_splitOf_60 : decode cX3_splitOf 60 = .ok (.ifCond .eq 57, 3) := by decide +kernel
theorem dX3_splitOf_63 : decode cX3_splitOf 63 = .ok (.iload 6, 2) := by decide +kernel
theorem dX3_splitOf_65 : decode cX3_splitOf 65 = .ok (.iload_n 3, 1) := by decide +kernel
theorem dX3_splitOf_66 : decode cX3_splitOf 66 = .ok (.if_icmp .gt 51, 3) := by decide +kernel
theorem dX3_splitOf_69 : decode cX3_splitOf 69 = .ok (.aload_n 0, 1) := by decide +kernel
theorem dX3_splitOf_70 : decode cX3_splitOf 70 = .ok (.aload_n 1, 1) := by decide +kernel
theorem dX3_splitOf_71 : decode cX3_splitOf 71 = .ok (.getfield 51, 3) := by decide +kernel
theorem dX3_splitOf_74 : decode cX3_splitOf 74 = .ok (.iload 4, 2) := by decide +kernel
theorem dX3_splitOf_76 : decode cX3_splitOf 76 = .ok (.iconst 1, 1) := by decide +kernel
theorem dX3_splitOf_77 : decode cX3_splitOf 77 = .ok (.iadd, 1) := by decide +kernel
theorem dX3_splitOf_78 : decode cX3_splitOf 78 = .ok (.iload 6, 2) := by decide +kernel
theorem dX3_splitOf_80 : decode cX3_splitOf 80 = .ok (.invokevirtual 90, 3) := by decide +kernel
theorem dX3_splitOf_83 : decode cX3_splitOf 83 = .ok (.ifCond .le 28, 3) := by decide +kernel
theorem dX3_splitOf_86 : decode cX3_splitOf 86 = .ok (.aload_n 0, 1) := by decide +kernel
theorem dX3_splitOf_87 : decode cX3_splitOf 87 = .ok (.aload_n 1, 1) := by decide +kernel
theorem dX3_splitOf_88 : decode cX3_splitOf 88 = .ok (.getfield 54, 3) := by decide +kernel
theorem dX3_splitOf_91 : decode cX3_splitOf 91 = .ok (.iload 6, 2) := by decide +kernel
theorem dX3_splitOf_93 : decode cX3_splitOf 93 = .ok (.iconst 1, 1) := by decide +kernel
theorem dX3_splitOf_94 : decode cX3_splitOf 94 = .ok (.iadd, 1) := by decide +kernel
theorem dX3_splitOf_95 : decode cX3_splitOf 95 = .ok (.iload_n 3, 1) := by decide +kernel
theorem dX3_splitOf_96 : decode cX3_splitOf 96 = .ok (.invokevirtual 90, 3) := by decide +kernel
theorem dX3_splitOf_99 : decode cX3_splitOf 99 = .ok (.ifCond .le 12, 3) := by decide +kernel
theorem dX3_splitOf_102 : decode cX3_splitOf 102 = .ok (.iload 4, 2) := by decide +kernel
theorem dX3_splitOf_104 : decode cX3_splitOf 104 = .ok (.bipush 10, 2) := by decide +kernel
theorem dX3_splitOf_106 : decode cX3_splitOf 106 = .ok (.imul, 1) := by decide +kernel
theorem dX3_splitOf_107 : decode cX3_splitOf 107 = .ok (.iload 6, 2) := by decide +kernel
theorem dX3_splitOf_109 : decode cX3_splitOf 109 = .ok (.iadd, 1) := by decide +kernel
theorem dX3_splitOf_110 : decode cX3_splitOf 110 = .ok (.ireturn, 1) := by decide +kernel
theorem dX3_splitOf_111 : decode cX3_splitOf 111 = .ok (.iinc 6 1, 3) := by decide +kernel
theorem dX3_splitOf_114 : decode cX3_splitOf 114 = .ok (.goto (-56), 3) := by decide +kernel
theorem dX3_splitOf_117 : decode cX3_splitOf 117 = .ok (.iinc 4 1, 3) := by decide +kernel
theorem dX3_splitOf_120 : decode cX3_splitOf 120 = .ok (.goto (-105), 3) := by decide +kernel
theorem dX3_splitOf_123 : decode cX3_splitOf 123 = .ok (.iconst (-1), 1) := by decide +kernel
theorem dX3_splitOf_124 : decode cX3_splitOf 124 = .ok (.ireturn, 1) := by decide +kernel
theorem dX3_hasNumbersOf_0 : decode cX3_hasNumbersOf 0 = .ok (.bipush 10, 2) := by decide +kernel
theorem dX3_hasNumbersOf_2 : decode cX3_hasNumbersOf 2 = .ok (.istore_n 2, 1) := by decide +kernel
theorem dX3_hasNumbersOf_3 : decode cX3_hasNumbersOf 3 = .ok (.iload_n 2, 1) := by decide +kernel
theorem dX3_hasNumbersOf_4 : decode cX3_hasNumbersOf 4 = .ok (.bipush 15, 2) := by decide +kernel
theorem dX3_hasNumbersOf_6 : decode cX3_hasNumbersOf 6 = .ok (.if_icmp .ge 64, 3) := by decide +kernel
theorem dX3_hasNumbersOf_9 : decode cX3_hasNumbersOf 9 = .ok (.iconst 0, 1) := by decide +kernel
theorem dX3_hasNumbersOf_10 : decode cX3_hasNumbersOf 10 = .ok (.istore_n 3, 1) := by decide +kernel
theorem dX3_hasNumbersOf_11 : decode cX3_hasNumbersOf 11 = .ok (.iload_n 3, 1) := by decide +kernel
theorem dX3_hasNumbersOf_12 : decode cX3_hasNumbersOf 12 = .ok (.aload_n 0, 1) := by decide +kernel
theorem dX3_hasNumbersOf_13 : decode cX3_hasNumbersOf 13 = .ok (.getfield 18, 3) := by decide +kernel
theorem dX3_hasNumbersOf_16 : decode cX3_hasNumbersOf 16 = .ok (.if_icmp .ge 48, 3) := by decide +kernel
theorem dX3_hasNumbersOf_19 : decode cX3_hasNumbersOf 19 = .ok (.iload_n 3, 1) := by decide +kernel
theorem dX3_hasNumbersOf_20 : decode cX3_hasNumbersOf 20 = .ok (.istore 4, 2) := by decide +kernel
theorem dX3_hasNumbersOf_22 : decode cX3_hasNumbersOf 22 = .ok (.iload 4, 2) := by decide +kernel
theorem dX3_hasNumbersOf_24 : decode cX3_hasNumbersOf 24 = .ok (.aload_n 0, 1) := by decide +kernel
theorem dX3_hasNumbersOf_25 : decode cX3_hasNumbersOf 25 = .ok (.getfield 18, 3) := by decide +kernel
theorem dX3_hasNumbersOf_28 : decode cX3_hasNumbersOf 28 = .ok (.if_icmp .ge 30, 3) := by decide +kernel
theorem dX3_hasNumbersOf_31 : decode cX3_hasNumbersOf 31 = .ok (.aload_n 0, 1) := by decide +kernel
theorem dX3_hasNumbersOf_32 : decode cX3_hasNumbersOf 32 = .ok (.iload_n 2, 1) := by decide +kernel
theorem dX3_hasNumbersOf_33 : decode cX3_hasNumbersOf 33 = .ok (.iload_n 3, 1) := by decide +kernel
theorem dX3_hasNumbersOf_34 : decode cX3_hasNumbersOf 34 = .ok (.iload 4, 2) := by decide +kernel
theorem dX3_hasNumbersOf_36 : decode cX3_hasNumbersOf 36 = .ok (.invokevirtual 90, 3) := by decide +kernel
theorem dX3_hasNumbersOf_39 : decode cX3_hasNumbersOf 39 = .ok (.aload_n 1, 1) := by decide +kernel
theorem dX3_hasNumbersOf_40 : decode cX3_hasNumbersOf 40 = .ok (.iload_n 2, 1) := by decide +kernel
theorem dX3_hasNumbersOf_41 : decode cX3_hasNumbersOf 41 = .ok (.iload_n 3, 1) := by decide +kernel
theorem dX3_hasNumbersOf_42 : decode cX3_hasNumbersOf 42 = .ok (.iload 4, 2) := by decide +kernel
theorem dX3_hasNumbersOf_44 : decode cX3_hasNumbersOf 44 = .ok (.invokevirtual 90, 3) := by decide +kernel
theorem dX3_hasNumbersOf_47 : decode cX3_hasNumbersOf 47 = .ok (.if_icmp .eq 5, 3) := by decide +kernel
theorem dX3_hasNumbersOf_50 : decode cX3_hasNumbersOf 50 = .ok (.iconst 0, 1) := by decide +kernel
theorem dX3_hasNumbersOf_51 : decode cX3_hasNumbersOf 51 = .ok (.ireturn, 1) := by decide +kernel
theorem dX3_hasNumbersOf_52 : decode cX3_hasNumbersOf 52 = .ok (.iinc 4 1, 3) := by decide +kernel
theorem dX3_hasNumbersOf_55 : decode cX3_hasNumbersOf 55 = .ok (.goto (-33), 3) := by decide +kernel
theorem dX3_hasNumbersOf_58 : decode cX3_hasNumbersOf 58 = .ok (.iinc 3 1, 3) := by decide +kernel
theorem dX3_hasNumbersOf_61 : decode cX3_hasNumbersOf 61 = .ok (.goto (-50), 3) := by decide +kernel
theorem dX3_hasNumbersOf_64 : decode cX3_hasNumbersOf 64 = .ok (.iinc 2 1, 3) := by decide +kernel
theorem dX3_hasNumbersOf_67 : decode cX3_hasNumbersOf 67 = .ok (.goto (-64), 3) := by decide +kernel
theorem dX3_hasNumbersOf_70 : decode cX3_hasNumbersOf 70 = .ok (.iconst 1, 1) := by decide +kernel
theorem dX3_hasNumbersOf_71 : decode cX3_hasNumbersOf 71 = .ok (.ireturn, 1) := by decide +kernel
theorem dX4_init_0 : decode cX4_init 0 = .ok (.aload_n 0, 1) := by decide +kernel
theorem dX4_init_1 : decode cX4_init 1 = .ok (.invokespecial 3, 3) := by decide +kernel
theorem dX4_init_4 : decode cX4_init 4 = .ok (.aload_n 0, 1) := by decide +kernel
theorem dX4_init_5 : decode cX4_init 5 = .ok (.new 9, 3) := by decide +kernel
theorem dX4_init_8 : decode cX4_init 8 = .ok (.dup, 1) := by decide +kernel
theorem dX4_init_9 : decode cX4_init 9 = .ok (.invokespecial 11, 3) := by decide +kernel
theorem dX4_init_12 : decode cX4_init 12 = .ok (.putfield 12, 3) := by decide +kernel
theorem dX4_init_15 : decode cX4_init 15 = .ok (.aload_n 0, 1) := by decide +kernel
theorem dX4_init_16 : decode cX4_init 16 = .ok (.bipush 95, 2) := by decide +kernel
theorem dX4_init_18 : decode cX4_init 18 = .ok (.newarray .int, 2) := by decide +kernel
theorem dX4_init_20 : decode cX4_init 20 = .ok (.putfield 18, 3) := by decide +kernel
theorem dX4_init_23 : decode cX4_init 23 = .ok (.aload_n 0, 1) := by decide +kernel
theorem dX4_init_24 : decode cX4_init 24 = .ok (.iconst 0, 1) := by decide +kernel
theorem dX4_init_25 : decode cX4_init 25 = .ok (.putfield 22, 3) := by decide +kernel
theorem dX4_init_28 : decode cX4_init 28 = .ok (.return_, 1) := by decide +kernel
theorem dX4_keep_0 : decode cX4_keep 0 = .ok (.aload_n 0, 1) := by decide +kernel
theorem dX4_keep_1 : decode cX4_keep 1 = .ok (.aload_n 1, 1) := by decide +kernel
theorem dX4_keep_2 : decode cX4_keep 2 = .ok (.getfield 26, 3) := by decide +kernel
theorem dX4_keep_5 : decode cX4_keep 5 = .ok (.aload_n 0, 1) := by decide +kernel
theorem dX4_keep_6 : decode cX4_keep 6 = .ok (.getfield 18, 3) := by decide +kernel
theorem dX4_keep_9 : decode cX4_keep 9 = .ok (.arraylength, 1) := by decide +kernel
theorem dX4_keep_10 : decode cX4_keep 10 = .ok (.invokestatic 31, 3) := by decide +kernel
theorem dX4_keep_13 : decode cX4_keep 13 = .ok (.putfield 22, 3) := by decide +kernel
theorem dX4_keep_16 : decode cX4_keep 16 = .ok (.iconst 0, 1) := by decide +kernel
theorem dX4_keep_17 : decode cX4_keep 17 = .ok (.istore_n 2, 1) := by decide +kernel
theorem dX4_keep_18 : decode cX4_keep 18 = .ok (.iload_n 2, 1) := by decide +kernel
theorem dX4_keep_19 : decode cX4_keep 19 = .ok (.aload_n 0, 1) := by decide +kernel
theorem dX4_keep_20 : decode cX4_keep 20 = .ok (.getfield 22, 3) := by decide +kernel
theorem dX4_keep_23 : decode cX4_keep 23 = .ok (.if_icmp .ge 20, 3) := by decide +kernel
theorem dX4_keep_26 : decode cX4_keep 26 = .ok (.aload_n 0, 1) := by decide +kernel
theorem dX4_keep_27 : decode cX4_keep 27 = .ok (.getfield 18, 3) := by decide +kernel
theorem dX4_keep_30 : decode cX4_keep 30 = .ok (.iload_n 2, 1) := by decide +kernel
theorem dX4_keep_31 : decode cX4_keep 31 = .ok (.aload_n 1, 1) := by decide +kernel
theorem dX4_keep_32 : decode cX4_keep 32 = .ok (.iload_n 2, 1) := by decide +kernel
theorem dX4_keep_33 : decode cX4_keep 33 = .ok (.invokevirtual 37, 3) := by decide +kernel
theorem dX4_keep_36 : decode cX4_keep 36 = .ok (.iastore, 1) := by decide +kernel
theorem dX4_keep_37 : decode cX4_keep 37 = .ok (.iinc 2 1, 3) := by decide +kernel
theorem dX4_keep_40 : decode cX4_keep 40 = .ok (.goto (-22), 3) := by decide +kernel
theorem dX4_keep_43 : decode cX4_keep 43 = .ok (.return_, 1) := by decide +kernel
theorem dX4_hasAccepted_0 : decode cX4_hasAccepted 0 = .ok (.aload_n 1, 1) := by decide +kernel
theorem dX4_hasAccepted_1 : decode cX4_hasAccepted 1 = .ok (.getfield 26, 3) := by decide +kernel
theorem dX4_hasAccepted_4 : decode cX4_hasAccepted 4 = .ok (.aload_n 0, 1) := by decide +kernel
theorem dX4_hasAccepted_5 : decode cX4_hasAccepted 5 = .ok (.getfield 22, 3) := by decide +kernel
theorem dX4_hasAccepted_8 : decode cX4_hasAccepted 8 = .ok (.if_icmp .ne 15, 3) := by decide +kernel
theorem dX4_hasAccepted_11 : decode cX4_hasAccepted 11 = .ok (.aload_n 0, 1) := by decide +kernel
theorem dX4_hasAccepted_12 : decode cX4_hasAccepted 12 = .ok (.getfield 22, 3) := by decide +kernel
theorem dX4_hasAccepted_15 : decode cX4_hasAccepted 15 = .ok (.aload_n 0, 1) := by decide +kernel
theorem dX4_hasAccepted_16 : decode cX4_hasAccepted 16 = .ok (.getfield 18, 3) := by decide +kernel
theorem dX4_hasAccepted_19 : decode cX4_hasAccepted 19 = .ok (.arraylength, 1) := by decide +kernel
theorem dX4_hasAccepted_20 : decode cX4_hasAccepted 20 = .ok (.if_icmp .le 5, 3) := by decide +kernel
theorem dX4_hasAccepted_23 : decode cX4_hasAccepted 23 = .ok (.iconst 0, 1) := by decide +kernel
theorem dX4_hasAccepted_24 : decode cX4_hasAccepted 24 = .ok (.ireturn, 1) := by decide +kernel
theorem dX4_hasAccepted_25 : decode cX4_hasAccepted 25 = .ok (.iconst 0, 1) := by decide +kernel
theorem dX4_hasAccepted_26 : decode cX4_hasAccepted 26 = .ok (.istore_n 2, 1) := by decide +kernel
theorem dX4_hasAccepted_27 : decode cX4_hasAccepted 27 = .ok (.iload_n 2, 1) := by decide +kernel
theorem dX4_hasAccepted_28 : decode cX4_hasAccepted 28 = .ok (.aload_n 0, 1) := by decide +kernel
theorem dX4_hasAccepted_29 : decode cX4_hasAccepted 29 = .ok (.getfield 22, 3) := by decide +kernel
theorem dX4_hasAccepted_32 : decode cX4_hasAccepted 32 = .ok (.if_icmp .ge 25, 3) := by decide +kernel
theorem dX4_hasAccepted_35 : decode cX4_hasAccepted 35 = .ok (.aload_n 0, 1) := by decide +kernel
theorem dX4_hasAccepted_36 : decode cX4_hasAccepted 36 = .ok (.getfield 18, 3) := by decide +kernel
theorem dX4_hasAccepted_39 : decode cX4_hasAccepted 39 = .ok (.iload_n 2, 1) := by decide +kernel
theorem dX4_hasAccepted_40 : decode cX4_hasAccepted 40 = .ok (.iaload, 1) := by decide +kernel
theorem dX4_hasAccepted_41 : decode cX4_hasAccepted 41 = .ok (.aload_n 1, 1) := by decide +kernel
theorem dX4_hasAccepted_42 : decode cX4_hasAccepted 42 = .ok (.iload_n 2, 1) := by decide +kernel
theorem dX4_hasAccepted_43 : decode cX4_hasAccepted 43 = .ok (.invokevirtual 37, 3) := by decide +kernel
theorem dX4_hasAccepted_46 : decode cX4_hasAccepted 46 = .ok (.if_icmp .eq 5, 3) := by decide +kernel
theorem dX4_hasAccepted_49 : decode cX4_hasAccepted 49 = .ok (.iconst 0, 1) := by decide +kernel
theorem dX4_hasAccepted_50 : decode cX4_hasAccepted 50 = .ok (.ireturn, 1) := by decide +kernel
theorem dX4_hasAccepted_51 : decode cX4_hasAccepted 51 = .ok (.iinc 2 1, 3) := by decide +kernel
theorem dX4_hasAccepted_54 : decode cX4_hasAccepted 54 = .ok (.goto (-27), 3) := by decide +kernel
theorem dX4_hasAccepted_57 : decode cX4_hasAccepted 57 = .ok (.iconst 1, 1) := by decide +kernel
theorem dX4_hasAccepted_58 : decode cX4_hasAccepted 58 = .ok (.ireturn, 1) := by decide +kernel
theorem dX5_init_0 : decode cX5_init 0 = .ok (.aload_n 0, 1) := by decide +kernel
theorem dX5_init_1 : decode cX5_init 1 = .ok (.invokespecial 3, 3) := by decide +kernel
theorem dX5_init_4 : decode cX5_init 4 = .ok (.aload_n 0, 1) := by decide +kernel
theorem dX5_init_5 : decode cX5_init 5 = .ok (.sipush 500, 3) := by decide +kernel
theorem dX5_init_8 : decode cX5_init 8 = .ok (.newarray .int, 2) := by decide +kernel
theorem dX5_init_10 : decode cX5_init 10 = .ok (.putfield 9, 3) := by decide +kernel
theorem dX5_init_13 : decode cX5_init 13 = .ok (.return_, 1) := by decide +kernel
theorem dX5_treesOfAll_0 : decode cX5_treesOfAll 0 = .ok (.aload_n 0, 1) := by decide +kernel
theorem dX5_treesOfAll_1 : decode cX5_treesOfAll 1 = .ok (.getfield 9, 3) := by decide +kernel
theorem dX5_treesOfAll_4 : decode cX5_treesOfAll 4 = .ok (.iconst (-1), 1) := by decide +kernel
theorem dX5_treesOfAll_5 : decode cX5_treesOfAll 5 = .ok (.invokestatic 15, 3) := by decide +kernel
theorem dX5_treesOfAll_8 : decode cX5_treesOfAll 8 = .ok (.aload_n 0, 1) := by decide +kernel
theorem dX5_treesOfAll_9 : decode cX5_treesOfAll 9 = .ok (.aload_n 1, 1) := by decide +kernel
theorem dX5_treesOfAll_10 : decode cX5_treesOfAll 10 = .ok (.aload_n 2, 1) := by decide +kernel
theorem dX5_treesOfAll_11 : decode cX5_treesOfAll 11 = .ok (.bipush 10, 2) := by decide +kernel
theorem dX5_treesOfAll_13 : decode cX5_treesOfAll 13 = .ok (.iconst 0, 1) := by decide +kernel
theorem dX5_treesOfAll_14 : decode cX5_treesOfAll 14 = .ok (.aload_n 2, 1) := by decide +kernel
theorem dX5_treesOfAll_15 : decode cX5_treesOfAll 15 = .ok (.getfield 21, 3) := by decide +kernel
theorem dX5_treesOfAll_18 : decode cX5_treesOfAll 18 = .ok (.iconst 1, 1) := by decide +kernel
theorem dX5_treesOfAll_19 : decode cX5_treesOfAll 19 = .ok (.isub, 1) := by decide +kernel
theorem dX5_treesOfAll_20 : decode cX5_treesOfAll 20 = .ok (.iconst 1, 1) := by decide +kernel
theorem dX5_treesOfAll_21 : decode cX5_treesOfAll 21 = .ok (.invokevirtual 27, 3) := by decide +kernel
theorem dX5_treesOfAll_24 : decode cX5_treesOfAll 24 = .ok (.ireturn, 1) := by decide +kernel
theorem dX5_tryName_0 : decode cX5_tryName 0 = .ok (.iload_n 3, 1) := by decide +kernel
theorem dX5_tryName_1 : decode cX5_tryName 1 = .ok (.iload 4, 2) := by decide +kernel
theorem dX5_tryName_3 : decode cX5_tryName 3 = .ok (.iload 5, 2) := by decide +kernel
theorem dX5_tryName_5 : decode cX5_tryName 5 = .ok (.invokestatic 31, 3) := by decide +kernel
theorem dX5_tryName_8 : decode cX5_tryName 8 = .ok (.istore 7, 2) := by decide +kernel
theorem dX5_tryName_10 : decode cX5_tryName 10 = .ok (.iload 7, 2) := by decide +kernel
theorem dX5_tryName_12 : decode cX5_tryName 12 = .ok (.ifCond .lt 20, 3) := by decide +kernel
theorem dX5_tryName_15 : decode cX5_tryName 15 = .ok (.iload 7, 2) := by decide +kernel
theorem dX5_tryName_17 : decode cX5_tryName 17 = .ok (.aload_n 0, 1) := by decide +kernel
theorem dX5_tryName_18 : decode cX5_tryName 18 = .ok (.getfield 9, 3) := by decide +kernel
theorem dX5_tryName_21 : decode cX5_tryName 21 = .ok (.arraylength, 1) := by decide +kernel
theorem dX5_tryName_22 : decode cX5_tryName 22 = .ok (.if_icmp .ge 10, 3) := by decide +kernel
theorem dX5_tryName_25 : decode cX5_tryName 25 = .ok (.iload 6, 2) := by decide +kernel
theorem dX5_tryName_27 : decode cX5_tryName 27 = .ok (.bipush 25, 2) := by decide +kernel
theorem dX5_tryName_29 : decode cX5_tryName 29 = .ok (.if_icmp .le 5, 3) := by decide +kernel
theorem dX5_tryName_32 : decode cX5_tryName 32 = .ok (.iconst 0, 1) := by decide +kernel
theorem dX5_tryName_33 : decode cX5_tryName 33 = .ok (.ireturn, 1) := by decide +kernel
theorem dX5_tryName_34 : decode cX5_tryName 34 = .ok (.aload_n 0, 1) := by decide +kernel
theorem dX5_tryName_35 : decode cX5_tryName 35 = .ok (.getfield 9, 3) := by decide +kernel
theorem dX5_tryName_38 : decode cX5_tryName 38 = .ok (.iload 7, 2) := by decide +kernel
theorem dX5_tryName_40 : decode cX5_tryName 40 = .ok (.iaload, 1) := by decide +kernel
theorem dX5_tryName_41 : decode cX5_tryName 41 = .ok (.iconst (-1), 1) := by decide +kernel
theorem dX5_tryName_42 : decode cX5_tryName 42 = .ok (.if_icmp .eq 11, 3) := by decide +kernel
theorem dX5_tryName_45 : decode cX5_tryName 45 = .ok (.aload_n 0, 1) := by decide +kernel
theorem dX5_tryName_46 : decode cX5_tryName 46 = .ok (.getfield 9, 3) := by decide +kernel
theorem dX5_tryName_49 : decode cX5_tryName 49 = .ok (.iload 7, 2) := by decide +kernel
theorem dX5_tryName_51 : decode cX5_tryName 51 = .ok (.iaload, 1) := by decide +kernel
theorem dX5_tryName_52 : decode cX5_tryName 52 = .ok (.ireturn, 1) := by decide +kernel
theorem dX5_tryName_53 : decode cX5_tryName 53 = .ok (.iconst 0, 1) := by decide +kernel
theorem dX5_tryName_54 : decode cX5_tryName 54 = .ok (.istore 8, 2) := by decide +kernel
theorem dX5_tryName_56 : decode cX5_tryName 56 = .ok (.iconst 0, 1) := by decide +kernel
theorem dX5_tryName_57 : decode cX5_tryName 57 = .ok (.istore 9, 2) := by decide +kernel
theorem dX5_tryName_59 : decode cX5_tryName 59 = .ok (.iload 9, 2) := by decide +kernel
theorem dX5_tryName_61 : decode cX5_tryName 61 = .ok (.aload_n 1, 1) := by decide +kernel
theorem dX5_tryName_62 : decode cX5_tryName 62 = .ok (.getfield 35, 3) := by decide +kernel
theorem dX5_tryName_65 : decode cX5_tryName 65 = .ok (.if_icmp .ge 53, 3) := by decide +kernel
theorem dX5_tryName_68 : decode cX5_tryName 68 = .ok (.aload_n 1, 1) := by decide +kernel
theorem dX5_tryName_69 : decode cX5_tryName 69 = .ok (.iload 9, 2) := by decide +kernel
theorem dX5_tryName_71 : decode cX5_tryName 71 = .ok (.invokevirtual 40, 3) := by decide +kernel
theorem dX5_tryName_74 : decode cX5_tryName 74 = .ok (.astore 10, 2) := by decide +kernel
theorem dX5_tryName_76 : decode cX5_tryName 76 = .ok (.aload 10, 2) := by decide +kernel
theorem dX5_tryName_78 : decode cX5_tryName 78 = .ok (.ifnull 34, 3) := by decide +kernel
theorem dX5_tryName_81 : decode cX5_tryName 81 = .ok (.aload 10, 2) := by decide +kernel
theorem dX5_tryName_83 : decode cX5_tryName 83 = .ok (.getfield 44, 3) := by decide +kernel
theorem dX5_tryName_86 : decode cX5_tryName 86 = .ok (.iload_n 3, 1) := by decide +kernel
theorem dX5_tryName_87 : decode cX5_tryName 87 = .ok (.if_icmp .ne 25, 3) := by decide +kernel
theorem dX5_tryName_90 : decode cX5_tryName 90 = .ok (.iload 8, 2) := by decide +kernel
theorem dX5_tryName_92 : decode cX5_tryName 92 = .ok (.aload_n 0, 1) := by decide +kernel
theorem dX5_tryName_93 : decode cX5_tryName 93 = .ok (.aload_n 1, 1) := by decide +kernel
theorem dX5_tryName_94 : decode cX5_tryName 94 = .ok (.aload_n 2, 1) := by decide +kernel
theorem dX5_tryName_95 : decode cX5_tryName 95 = .ok (.aload 10, 2) := by decide +kernel
theorem dX5_tryName_97 : decode cX5_tryName 97 = .ok (.iload 4, 2) := by decide +kernel
theorem dX5_tryName_99 : decode cX5_tryName 99 = .ok (.iload 5, 2) := by decide +kernel
theorem dX5_tryName_101 : decode cX5_tryName 101 = .ok (.iload 6, 2) := by decide +kernel
theorem dX5_tryName_103 : decode cX5_tryName 103 = .ok (.invokevirtual 49, 3) := by decide +kernel
theorem dX5_tryName_106 : decode cX5_tryName 106 = .ok (.iadd, 1) := by decide +kernel
theorem dX5_tryName_107 : decode cX5_tryName 107 = .ok (.invokestatic 53, 3) := by decide +kernel
theorem dX5_tryName_110 : decode cX5_tryName 110 = .ok (.istore 8, 2) := by decide +kernel
theorem dX5_tryName_112 : decode cX5_tryName 112 = .ok (.iinc 9 1, 3) := by decide +kernel
theorem dX5_tryName_115 : decode cX5_tryName 115 = .ok (.goto (-56), 3) := by decide +kernel
theorem dX5_tryName_118 : decode cX5_tryName 118 = .ok (.aload_n 0, 1) := by decide +kernel
theorem dX5_tryName_119 : decode cX5_tryName 119 = .ok (.getfield 9, 3) := by decide +kernel
theorem dX5_tryName_122 : decode cX5_tryName 122 = .ok (.iload 7, 2) := by decide +kernel
theorem dX5_tryName_124 : decode cX5_tryName 124 = .ok (.iload 8, 2) := by decide +kernel
theorem dX5_tryName_126 : decode cX5_tryName 126 = .ok (.iastore, 1) := by decide +kernel
theorem dX5_tryName_127 : decode cX5_tryName 127 = .ok (.iload 8, 2) := by decide +kernel
theorem dX5_tryName_129 : decode cX5_tryName 129 = .ok (.ireturn, 1) := by decide +kernel
theorem dX5_tryRule_0 : decode cX5_tryRule 0 = .ok (.aload_n 3, 1) := by decide +kernel
theorem dX5_tryRule_1 : decode cX5_tryRule 1 = .ok (.getfield 57, 3) := by decide +kernel
theorem dX5_tryRule_4 : decode cX5_tryRule 4 = .ok (.iconst (-1), 1) := by decide +kernel
theorem dX5_tryRule_5 : decode cX5_tryRule 5 = .ok (.if_icmp .ne 20, 3) := by decide +kernel
theorem dX5_tryRule_8 : decode cX5_tryRule 8 = .ok (.aload_n 0, 1) := by decide +kernel
theorem dX5_tryRule_9 : decode cX5_tryRule 9 = .ok (.aload_n 1, 1) := by decide +kernel
theorem dX5_tryRule_10 : decode cX5_tryRule 10 = .ok (.aload_n 2, 1) := by decide +kernel
theorem dX5_tryRule_11 : decode cX5_tryRule 11 = .ok (.aload_n 3, 1) := by decide +kernel
theorem dX5_tryRule_12 : decode cX5_tryRule 12 = .ok (.getfield 60, 3) := by decide +kernel
theorem dX5_tryRule_15 : decode cX5_tryRule 15 = .ok (.iload 4, 2) := by decide +kernel
theorem dX5_tryRule_17 : decode cX5_tryRule 17 = .ok (.iload 5, 2) := by decide +kernel
theorem dX5_tryRule_19 : decode cX5_tryRule 19 = .ok (.iload 6, 2) := by decide +kernel
theorem dX5_tryRule_21 : decode cX5_tryRule 21 = .ok (.invokevirtual 63, 3) := by decide +kernel
theorem dX5_tryRule_24 : decode cX5_tryRule 24 = .ok (.ireturn, 1) := by decide +kernel
theorem dX5_tryRule_25 : decode cX5_tryRule 25 = .ok (.iconst 0, 1) := by decide +kernel
theorem dX5_tryRule_26 : decode cX5_tryRule 26 = .ok (.istore 7, 2) := by decide +kernel
theorem dX5_tryRule_28 : decode cX5_tryRule 28 = .ok (.iload 4, 2) := by decide +kernel
theorem dX5_tryRule_30 : decode cX5_tryRule 30 = .ok (.istore 8, 2) := by decide +kernel
theorem dX5_tryRule_32 : decode cX5_tryRule 32 = .ok (.iload 8, 2) := by decide +kernel
theorem dX5_tryRule_34 : decode cX5_tryRule 34 = .ok (.iload 5, 2) := by decide +kernel
theorem dX5_tryRule_36 : decode cX5_tryRule 36 = .ok (.if_icmp .ge 61, 3) := by decide +kernel
theorem dX5_tryRule_39 : decode cX5_tryRule 39 = .ok (.aload_n 0, 1) := by decide +kernel
theorem dX5_tryRule_40 : decode cX5_tryRule 40 = .ok (.aload_n 1, 1) := by decide +kernel
theorem dX5_tryRule_41 : decode cX5_tryRule 41 = .ok (.aload_n 2, 1) := by decide +kernel
theorem dX5_tryRule_42 : decode cX5_tryRule 42 = .ok (.aload_n 3, 1) := by decide +kernel
theorem dX5_tryRule_43 : decode cX5_tryRule 43 = .ok (.getfield 60, 3) := by decide +kernel
theorem dX5_tryRule_46 : decode cX5_tryRule 46 = .ok (.iload 4, 2) := by decide +kernel
theorem dX5_tryRule_48 : decode cX5_tryRule 48 = .ok (.iload 8, 2) := by decide +kernel
theorem dX5_tryRule_50 : decode cX5_tryRule 50 = .ok (.iload 6, 2) := by decide +kernel
theorem dX5_tryRule_52 : decode cX5_tryRule 52 = .ok (.invokevirtual 63, 3) := by decide +kernel
theorem dX5_tryRule_55 : decode cX5_tryRule 55 = .ok (.istore 9, 2) := by decide +kernel
theorem dX5_tryRule_57 : decode cX5_tryRule 57 = .ok (.iload 9, 2) := by decide +kernel
theorem dX5_tryRule_59 : decode cX5_tryRule 59 = .ok (.ifCond .le 32, 3) := by decide +kernel
theorem dX5_tryRule_62 : decode cX5_tryRule 62 = .ok (.iload 7, 2) := by decide +kernel
theorem dX5_tryRule_64 : decode cX5_tryRule 64 = .ok (.iload 9, 2) := by decide +kernel
theorem dX5_tryRule_66 : decode cX5_tryRule 66 = .ok (.aload_n 0, 1) := by decide +kernel
theorem dX5_tryRule_67 : decode cX5_tryRule 67 = .ok (.aload_n 1, 1) := by decide +kernel
theorem dX5_tryRule_68 : decode cX5_tryRule 68 = .ok (.aload_n 2, 1) := by decide +kernel
theorem dX5_tryRule_69 : decode cX5_tryRule 69 = .ok (.aload_n 3, 1) := by decide +kernel
theorem dX5_tryRule_70 : decode cX5_tryRule 70 = .ok (.iload 8, 2) := by decide +kernel
theorem dX5_tryRule_72 : decode cX5_tryRule 72 = .ok (.iconst 1, 1) := by decide +kernel
theorem dX5_tryRule_73 : decode cX5_tryRule 73 = .ok (.iadd, 1) := by decide +kernel
theorem dX5_tryRule_74 : decode cX5_tryRule 74 = .ok (.iload 5, 2) := by decide +kernel
theorem dX5_tryRule_76 : decode cX5_tryRule 76 = .ok (.iload 6, 2) := by decide +kernel
theorem dX5_tryRule_78 : decode cX5_tryRule 78 = .ok (.invokevirtual 66, 3) := by decide +kernel
theorem dX5_tryRule_81 : decode cX5_tryRule 81 = .ok (.imul, 1) := by decide +kernel
theorem dX5_tryRule_82 : decode cX5_tryRule 82 = .ok (.invokestatic 53, 3) := by decide +kernel
theorem dX5_tryRule_85 : decode cX5_tryRule 85 = .ok (.iadd, 1) := by decide +kernel
theorem dX5_tryRule_86 : decode cX5_tryRule 86 = .ok (.invokestatic 53, 3) := by decide +kernel
theorem dX5_tryRule_89 : decode cX5_tryRule 89 = .ok (.istore 7, 2) := by decide +kernel
theorem dX5_tryRule_91 : decode cX5_tryRule 91 = .ok (.iinc 8 1, 3) := by decide +kernel
theorem dX5_tryRule_94 : decode cX5_tryRule 94 = .ok (.goto (-62), 3) := by decide +kernel
theorem dX5_tryRule_97 : decode cX5_tryRule 97 = .ok (.iload 7, 2) := by decide +kernel
theorem dX5_tryRule_99 : decode cX5_tryRule 99 = .ok (.ireturn, 1) := by decide +kernel
theorem dX5_tryBehindFirst_0 : decode cX5_tryBehindFirst 0 = .ok (.aload_n 3, 1) := by decide +kernel
theorem dX5_tryBehindFirst_1 : decode cX5_tryBehindFirst 1 = .ok (.getfield 69, 3) := by decide +kernel
theorem dX5_tryBehindFirst_4 : decode cX5_tryBehindFirst 4 = .ok (.iconst (-1), 1) := by decide +kernel
theorem dX5_tryBehindFirst_5 : decode cX5_tryBehindFirst 5 = .ok (.if_icmp .ne 20, 3) := by decide +kernel
theorem dX5_tryBehindFirst_8 : decode cX5_tryBehindFirst 8 = .ok (.aload_n 0, 1) := by decide +kernel
theorem dX5_tryBehindFirst_9 : decode cX5_tryBehindFirst 9 = .ok (.aload_n 1, 1) := by decide +kernel
theorem dX5_tryBehindFirst_10 : decode cX5_tryBehindFirst 10 = .ok (.aload_n 2, 1) := by decide +kernel
theorem dX5_tryBehindFirst_11 : decode cX5_tryBehindFirst 11 = .ok (.aload_n 3, 1) := by decide +kernel
theorem dX5_tryBehindFirst_12 : decode cX5_tryBehindFirst 12 = .ok (.getfield 57, 3) := by decide +kernel
theorem dX5_tryBehindFirst_15 : decode cX5_tryBehindFirst 15 = .ok (.iload 4, 2) := by decide +kernel
theorem dX5_tryBehindFirst_17 : decode cX5_tryBehindFirst 17 = .ok (.iload 5, 2) := by decide +kernel
theorem dX5_tryBehindFirst_19 : decode cX5_tryBehindFirst 19 = .ok (.iload 6, 2) := by decide +kernel
theorem dX5_tryBehindFirst_21 : decode cX5_tryBehindFirst 21 = .ok (.invokevirtual 63, 3) := by decide +kernel
theorem dX5_tryBehindFirst_24 : decode cX5_tryBehindFirst 24 = .ok (.ireturn, 1) := by decide +kernel
theorem dX5_tryBehindFirst_25 : decode cX5_tryBehindFirst 25 = .ok (.iconst 0, 1) := by decide +kernel
theorem dX5_tryBehindFirst_26 : decode cX5_tryBehindFirst 26 = .ok (.istore 7, 2) := by decide +kernel
theorem dX5_tryBehindFirst_28 : decode cX5_tryBehindFirst 28 = .ok (.iload 4, 2) := by decide +kernel
theorem dX5_tryBehindFirst_30 : decode cX5_tryBehindFirst 30 = .ok (.istore 8, 2) := by decide +kernel
theorem dX5_tryBehindFirst_32 : decode cX5_tryBehindFirst 32 = .ok (.iload 8, 2) := by decide +kernel
theorem dX5_tryBehindFirst_34 : decode cX5_tryBehindFirst 34 = .ok (.iload 5, 2) := by decide +kernel
theorem dX5_tryBehindFirst_36 : decode cX5_tryBehindFirst 36 = .ok (.if_icmp .ge 64, 3) := by decide +kernel
theorem dX5_tryBehindFirst_39 : decode cX5_tryBehindFirst 39 = .ok (.aload_n 0, 1) := by decide +kernel
theorem dX5_tryBehindFirst_40 : decode cX5_tryBehindFirst 40 = .ok (.aload_n 1, 1) := by decide +kernel
theorem dX5_tryBehindFirst_41 : decode cX5_tryBehindFirst 41 = .ok (.aload_n 2, 1) := by decide +kernel
theorem dX5_tryBehindFirst_42 : decode cX5_tryBehindFirst 42 = .ok (.aload_n 3, 1) := by decide +kernel
theorem dX5_tryBehindFirst_43 : decode cX5_tryBehindFirst 43 = .ok (.getfield 57, 3) := by decide +kernel
theorem dX5_tryBehindFirst_46 : decode cX5_tryBehindFirst 46 = .ok (.iload 4, 2) := by decide +kernel
theorem dX5_tryBehindFirst_48 : decode cX5_tryBehindFirst 48 = .ok (.iload 8, 2) := by decide +kernel
theorem dX5_tryBehindFirst_50 : decode cX5_tryBehindFirst 50 = .ok (.iload 6, 2) := by decide +kernel
theorem dX5_tryBehindFirst_52 : decode cX5_tryBehindFirst 52 = .ok (.invokevirtual 63, 3) := by decide +kernel
theorem dX5_tryBehindFirst_55 : decode cX5_tryBehindFirst 55 = .ok (.istore 9, 2) := by decide +kernel
theorem dX5_tryBehindFirst_57 : decode cX5_tryBehindFirst 57 = .ok (.iload 9, 2) := by decide +kernel
theorem dX5_tryBehindFirst_59 : decode cX5_tryBehindFirst 59 = .ok (.ifCond .le 35, 3) := by decide +kernel
theorem dX5_tryBehindFirst_62 : decode cX5_tryBehindFirst 62 = .ok (.iload 7, 2) := by decide +kernel
theorem dX5_tryBehindFirst_64 : decode cX5_tryBehindFirst 64 = .ok (.iload 9, 2) := by decide +kernel
theorem dX5_tryBehindFirst_66 : decode cX5_tryBehindFirst 66 = .ok (.aload_n 0, 1) := by decide +kernel
theorem dX5_tryBehindFirst_67 : decode cX5_tryBehindFirst 67 = .ok (.aload_n 1, 1) := by decide +kernel
theorem dX5_tryBehindFirst_68 : decode cX5_tryBehindFirst 68 = .ok (.aload_n 2, 1) := by decide +kernel
theorem dX5_tryBehindFirst_69 : decode cX5_tryBehindFirst 69 = .ok (.aload_n 3, 1) := by decide +kernel
theorem dX5_tryBehindFirst_70 : decode cX5_tryBehindFirst 70 = .ok (.getfield 69, 3) := by decide +kernel
theorem dX5_tryBehindFirst_73 : decode cX5_tryBehindFirst 73 = .ok (.iload 8, 2) := by decide +kernel
theorem dX5_tryBehindFirst_75 : decode cX5_tryBehindFirst 75 = .ok (.iconst 1, 1) := by decide +kernel
theorem dX5_tryBehindFirst_76 : decode cX5_tryBehindFirst 76 = .ok (.iadd, 1) := by decide +kernel
theorem dX5_tryBehindFirst_77 : decode cX5_tryBehindFirst 77 = .ok (.iload 5, 2) := by decide +kernel
theorem dX5_tryBehindFirst_79 : decode cX5_tryBehindFirst 79 = .ok (.iload 6, 2) := by decide +kernel
theorem dX5_tryBehindFirst_81 : decode cX5_tryBehindFirst 81 = .ok (.invokevirtual 63, 3) := by decide +kernel
theorem dX5_tryBehindFirst_84 : decode cX5_tryBehindFirst 84 = .ok (.imul, 1) := by decide +kernel
theorem dX5_tryBehindFirst_85 : decode cX5_tryBehindFirst 85 = .ok (.invokestatic 53, 3) := by decide +kernel
theorem dX5_tryBehindFirst_88 : decode cX5_tryBehindFirst 88 = .ok (.iadd, 1) := by decide +kernel
theorem dX5_tryBehindFirst_89 : decode cX5_tryBehindFirst 89 = .ok (.invokestatic 53, 3) := by decide +kernel
theorem dX5_tryBehindFirst_92 : decode cX5_tryBehindFirst 92 = .ok (.istore 7, 2) := by decide +kernel
theorem dX5_tryBehindFirst_94 : decode cX5_tryBehindFirst 94 = .ok (.iinc 8 1, 3) := by decide +kernel
theorem dX5_tryBehindFirst_97 : decode cX5_tryBehindFirst 97 = .ok (.goto (-65), 3) := by decide +kernel
theorem dX5_tryBehindFirst_100 : decode cX5_tryBehindFirst 100 = .ok (.iload 7, 2) := by decide +kernel
theorem dX5_tryBehindFirst_102 : decode cX5_tryBehindFirst 102 = .ok (.ireturn, 1) := by decide +kernel
theorem dX5_tryPart_0 : decode cX5_tryPart 0 = .ok (.iload_n 3, 1) := by decide +kernel
theorem dX5_tryPart_1 : decode cX5_tryPart 1 = .ok (.invokestatic 72, 3) := by decide +kernel
theorem dX5_tryPart_4 : decode cX5_tryPart 4 = .ok (.ifCond .eq 13, 3) := by decide +kernel
theorem dX5_tryPart_7 : decode cX5_tryPart 7 = .ok (.aload_n 2, 1) := by decide +kernel
theorem dX5_tryPart_8 : decode cX5_tryPart 8 = .ok (.iload_n 3, 1) := by decide +kernel
theorem dX5_tryPart_9 : decode cX5_tryPart 9 = .ok (.iload 4, 2) := by decide +kernel
theorem dX5_tryPart_11 : decode cX5_tryPart 11 = .ok (.iload 5, 2) := by decide +kernel
theorem dX5_tryPart_13 : decode cX5_tryPart 13 = .ok (.invokevirtual 76, 3) := by decide +kernel
theorem dX5_tryPart_16 : decode cX5_tryPart 16 = .ok (.ireturn, 1) := by decide +kernel
theorem dX5_tryPart_17 : decode cX5_tryPart 17 = .ok (.aload_n 0, 1) := by decide +kernel
theorem dX5_tryPart_18 : decode cX5_tryPart 18 = .ok (.aload_n 1, 1) := by decide +kernel
theorem dX5_tryPart_19 : decode cX5_tryPart 19 = .ok (.aload_n 2, 1) := by decide +kernel
theorem dX5_tryPart_20 : decode cX5_tryPart 20 = .ok (.iload_n 3, 1) := by decide +kernel
theorem dX5_tryPart_21 : decode cX5_tryPart 21 = .ok (.iload 4, 2) := by decide +kernel
theorem dX5_tryPart_23 : decode cX5_tryPart 23 = .ok (.iload 5, 2) := by decide +kernel
theorem dX5_tryPart_25 : decode cX5_tryPart 25 = .ok (.iload 6, 2) := by decide +kernel
theorem dX5_tryPart_27 : decode cX5_tryPart 27 = .ok (.iconst 1, 1) := by decide +kernel
theorem dX5_tryPart_28 : decode cX5_tryPart 28 = .ok (.iadd, 1) := by decide +kernel
theorem dX5_tryPart_29 : decode cX5_tryPart 29 = .ok (.invokevirtual 27, 3) := by decide +kernel
theorem dX5_tryPart_32 : decode cX5_tryPart 32 = .ok (.ireturn, 1) := by decide +kernel
theorem dX6_init_0 : decode cX6_init 0 = .ok (.aload_n 0, 1) := by decide +kernel
theorem dX6_init_1 : decode cX6_init 1 = .ok (.invokespecial 3, 3) := by decide +kernel
theorem dX6_init_4 : decode cX6_init 4 = .ok (.aload_n 0, 1) := by decide +kernel
theorem dX6_init_5 : decode cX6_init 5 = .ok (.new 9, 3) := by decide +kernel
theorem dX6_init_8 : decode cX6_init 8 = .ok (.dup, 1) := by decide +kernel
theorem dX6_init_9 : decode cX6_init 9 = .ok (.invokespecial 11, 3) := by decide +kernel
theorem dX6_init_12 : decode cX6_init 12 = .ok (.putfield 12, 3) := by decide +kernel
theorem dX6_init_15 : decode cX6_init 15 = .ok (.aload_n 0, 1) := by decide +kernel
theorem dX6_init_16 : decode cX6_init 16 = .ok (.bipush 6, 2) := by decide +kernel
theorem dX6_init_18 : decode cX6_init 18 = .ok (.anewarray 16, 3) := by decide +kernel
theorem dX6_init_21 : decode cX6_init 21 = .ok (.putfield 18, 3) := by decide +kernel
theorem dX6_init_24 : decode cX6_init 24 = .ok (.aload_n 0, 1) := by decide +kernel
theorem dX6_init_25 : decode cX6_init 25 = .ok (.new 22, 3) := by decide +kernel
theorem dX6_init_28 : decode cX6_init 28 = .ok (.dup, 1) := by decide +kernel
theorem dX6_init_29 : decode cX6_init 29 = .ok (.invokespecial 24, 3) := by decide +kernel
theorem dX6_init_32 : decode cX6_init 32 = .ok (.putfield 25, 3) := by decide +kernel
theorem dX6_init_35 : decode cX6_init 35 = .ok (.aload_n 0, 1) := by decide +kernel
theorem dX6_init_36 : decode cX6_init 36 = .ok (.new 29, 3) := by decide +kernel
theorem dX6_init_39 : decode cX6_init 39 = .ok (.dup, 1) := by decide +kernel
theorem dX6_init_40 : decode cX6_init 40 = .ok (.invokespecial 31, 3) := by decide +kernel
theorem dX6_init_43 : decode cX6_init 43 = .ok (.putfield 32, 3) := by decide +kernel
theorem dX6_init_46 : decode cX6_init 46 = .ok (.aload_n 0, 1) := by decide +kernel
theorem dX6_init_47 : decode cX6_init 47 = .ok (.new 36, 3) := by decide +kernel
theorem dX6_init_50 : decode cX6_init 50 = .ok (.dup, 1) := by decide +kernel
theorem dX6_init_51 : decode cX6_init 51 = .ok (.invokespecial 38, 3) := by decide +kernel
theorem dX6_init_54 : decode cX6_init 54 = .ok (.putfield 39, 3) := by decide +kernel
theorem dX6_init_57 : decode cX6_init 57 = .ok (.aload_n 0, 1) := by decide +kernel
theorem dX6_init_58 : decode cX6_init 58 = .ok (.iconst 0, 1) := by decide +kernel
theorem dX6_init_59 : decode cX6_init 59 = .ok (.putfield 43, 3) := by decide +kernel
theorem dX6_init_62 : decode cX6_init 62 = .ok (.aload_n 0, 1) := by decide +kernel
theorem dX6_init_63 : decode cX6_init 63 = .ok (.iconst 0, 1) := by decide +kernel
theorem dX6_init_64 : decode cX6_init 64 = .ok (.putfield 47, 3) := by decide +kernel
theorem dX6_init_67 : decode cX6_init 67 = .ok (.aload_n 0, 1) := by decide +kernel
theorem dX6_init_68 : decode cX6_init 68 = .ok (.lconst 0, 1) := by decide +kernel
theorem dX6_init_69 : decode cX6_init 69 = .ok (.putfield 50, 3) := by decide +kernel
theorem dX6_init_72 : decode cX6_init 72 = .ok (.return_, 1) := by decide +kernel
theorem dX6_addRule_0 : decode cX6_addRule 0 = .ok (.iload_n 1, 1) := by decide +kernel
theorem dX6_addRule_1 : decode cX6_addRule 1 = .ok (.iload_n 2, 1) := by decide +kernel
theorem dX6_addRule_2 : decode cX6_addRule 2 = .ok (.iload_n 3, 1) := by decide +kernel
theorem dX6_addRule_3 : decode cX6_addRule 3 = .ok (.iload 4, 2) := by decide +kernel
theorem dX6_addRule_5 : decode cX6_addRule 5 = .ok (.invokestatic 54, 3) := by decide +kernel
theorem dX6_addRule_8 : decode cX6_addRule 8 = .ok (.ifCond .ne 11, 3) := by decide +kernel
theorem dX6_addRule_11 : decode cX6_addRule 11 = .ok (.new 58, 3) := by decide +kernel
theorem dX6_addRule_14 : decode cX6_addRule 14 = .ok (.dup, 1) := by decide +kernel
theorem dX6_addRule_15 : decode cX6_addRule 15 = .ok (.invokespecial 60, 3) := by decide +kernel
theorem dX6_addRule_18 : decode cX6_addRule 18 = .ok (.athrow, 1) := by decide +kernel
theorem dX6_addRule_19 : decode cX6_addRule 19 = .ok (.aload_n 0, 1) := by decide +kernel
theorem dX6_addRule_20 : decode cX6_addRule 20 = .ok (.getfield 12, 3) := by decide +kernel
theorem dX6_addRule_23 : decode cX6_addRule 23 = .ok (.invokevirtual 61, 3) := by decide +kernel
theorem dX6_addRule_26 : decode cX6_addRule 26 = .ok (.ifCond .ne 11, 3) := by decide +kernel
theorem dX6_addRule_29 : decode cX6_addRule 29 = .ok (.new 65, 3) := by decide +kernel
theorem dX6_addRule_32 : decode cX6_addRule 32 = .ok (.dup, 1) := by decide +kernel
theorem dX6_addRule_33 : decode cX6_addRule 33 = .ok (.invokespecial 67, 3) := by decide +kernel
theorem dX6_addRule_36 : decode cX6_addRule 36 = .ok (.athrow, 1) := by decide +kernel
theorem dX6_addRule_37 : decode cX6_addRule 37 = .ok (.new 68, 3) := by decide +kernel
theorem dX6_addRule_40 : decode cX6_addRule 40 = .ok (.dup, 1) := by decide +kernel
theorem dX6_addRule_41 : decode cX6_addRule 41 = .ok (.aload_n 0, 1) := by decide +kernel
theorem dX6_addRule_42 : decode cX6_addRule 42 = .ok (.getfield 12, 3) := by decide +kernel
theorem dX6_addRule_45 : decode cX6_addRule 45 = .ok (.getfield 70, 3) := by decide +kernel
theorem dX6_addRule_48 : decode cX6_addRule 48 = .ok (.iload_n 1, 1) := by decide +kernel
theorem dX6_addRule_49 : decode cX6_addRule 49 = .ok (.iload_n 2, 1) := by decide +kernel
theorem dX6_addRule_50 : decode cX6_addRule 50 = .ok (.iload_n 3, 1) := by decide +kernel
theorem dX6_addRule_51 : decode cX6_addRule 51 = .ok (.iload 4, 2) := by decide +kernel
theorem dX6_addRule_53 : decode cX6_addRule 53 = .ok (.invokespecial 73, 3) := by decide +kernel
theorem dX6_addRule_56 : decode cX6_addRule 56 = .ok (.astore 5, 2) := by decide +kernel
theorem dX6_addRule_58 : decode cX6_addRule 58 = .ok (.aload_n 0, 1) := by decide +kernel
theorem dX6_addRule_59 : decode cX6_addRule 59 = .ok (.getfield 12, 3) := by decide +kernel
theorem dX6_addRule_62 : decode cX6_addRule 62 = .ok (.aload 5, 2) := by decide +kernel
theorem dX6_addRule_64 : decode cX6_addRule 64 = .ok (.invokevirtual 76, 3) := by decide +kernel
theorem dX6_addRule_67 : decode cX6_addRule 67 = .ok (.aload_n 0, 1) := by decide +kernel
theorem dX6_addRule_68 : decode cX6_addRule 68 = .ok (.aload 5, 2) := by decide +kernel
theorem dX6_addRule_70 : decode cX6_addRule 70 = .ok (.invokevirtual 80, 3) := by decide +kernel
theorem dX6_addRule_73 : decode cX6_addRule 73 = .ok (.pop, 1) := by decide +kernel
theorem dX6_addRule_74 : decode cX6_addRule 74 = .ok (.aload 5, 2) := by decide +kernel
theorem dX6_addRule_76 : decode cX6_addRule 76 = .ok (.getfield 84, 3) := by decide +kernel
theorem dX6_addRule_79 : decode cX6_addRule 79 = .ok (.ireturn, 1) := by decide +kernel
theorem dX6_dropRule_0 : decode cX6_dropRule 0 = .ok (.aload_n 0, 1) := by decide +kernel
theorem dX6_dropRule_1 : decode cX6_dropRule 1 = .ok (.iload_n 1, 1) := by decide +kernel
theorem dX6_dropRule_2 : decode cX6_dropRule 2 = .ok (.invokevirtual 87, 3) := by decide +kernel
theorem dX6_dropRule_5 : decode cX6_dropRule 5 = .ok (.astore_n 2, 1) := by decide +kernel
theorem dX6_dropRule_6 : decode cX6_dropRule 6 = .ok (.aload_n 2, 1) := by decide +kernel
theorem dX6_dropRule_7 : decode cX6_dropRule 7 = .ok (.iconst 1, 1) := by decide +kernel
theorem dX6_dropRule_8 : decode cX6_dropRule 8 = .ok (.putfield 91, 3) := by decide +kernel
theorem dX6_dropRule_11 : decode cX6_dropRule 11 = .ok (.aload_n 0, 1) := by decide +kernel
theorem dX6_dropRule_12 : decode cX6_dropRule 12 = .ok (.aload_n 2, 1) := by decide +kernel
theorem dX6_dropRule_13 : decode cX6_dropRule 13 = .ok (.invokevirtual 80, 3) := by decide +kernel
theorem dX6_dropRule_16 : decode cX6_dropRule 16 = .ok (.ireturn, 1) := by decide +kernel
theorem dX6_setRank_0 : decode cX6_setRank 0 = .ok (.aload_n 0, 1) := by decide +kernel
theorem dX6_setRank_1 : decode cX6_setRank 1 = .ok (.iload_n 1, 1) := by decide +kernel
theorem dX6_setRank_2 : decode cX6_setRank 2 = .ok (.invokevirtual 87, 3) := by decide +kernel
theorem dX6_setRank_5 : decode cX6_setRank 5 = .ok (.astore_n 3, 1) := by decide +kernel
theorem dX6_setRank_6 : decode cX6_setRank 6 = .ok (.iload_n 2, 1) := by decide +kernel
theorem dX6_setRank_7 : decode cX6_setRank 7 = .ok (.iconst 0, 1) := by decide +kernel
theorem dX6_setRank_8 : decode cX6_setRank 8 = .ok (.bipush 9, 2) := by decide +kernel
theorem dX6_setRank_10 : decode cX6_setRank 10 = .ok (.invokestatic 95, 3) := by decide +kernel
theorem dX6_setRank_13 : decode cX6_setRank 13 = .ok (.ifCond .ne 11, 3) := by decide +kernel
theorem dX6_setRank_16 : decode cX6_setRank 16 = .ok (.new 58, 3) := by decide +kernel
theorem dX6_setRank_19 : decode cX6_setRank 19 = .ok (.dup, 1) := by decide +kernel
theorem dX6_setRank_20 : decode cX6_setRank 20 = .ok (.invokespecial 60, 3) := by decide +kernel
theorem dX6_setRank_23 : decode cX6_setRank 23 = .ok (.athrow, 1) := by decide +kernel
theorem dX6_setRank_24 : decode cX6_setRank 24 = .ok (.aload_n 3, 1) := by decide +kernel
theorem dX6_setRank_25 : decode cX6_setRank 25 = .ok (.getfield 99, 3) := by decide +kernel
theorem dX6_setRank_28 : decode cX6_setRank 28 = .ok (.istore 4, 2) := by decide +kernel
theorem dX6_setRank_30 : decode cX6_setRank 30 = .ok (.aload_n 3, 1) := by decide +kernel
theorem dX6_setRank_31 : decode cX6_setRank 31 = .ok (.iload_n 2, 1) := by decide +kernel
theorem dX6_setRank_32 : decode cX6_setRank 32 = .ok (.putfield 99, 3) := by decide +kernel
theorem dX6_setRank_35 : decode cX6_setRank 35 = .ok (.iload 4, 2) := by decide +kernel
theorem dX6_setRank_37 : decode cX6_setRank 37 = .ok (.ireturn, 1) := by decide +kernel
theorem dX6_setStyle_0 : decode cX6_setStyle 0 = .ok (.aload_n 0, 1) := by decide +kernel
theorem dX6_setStyle_1 : decode cX6_setStyle 1 = .ok (.iload_n 1, 1) := by decide +kernel
theorem dX6_setStyle_2 : decode cX6_setStyle 2 = .ok (.invokevirtual 87, 3) := by decide +kernel
theorem dX6_setStyle_5 : decode cX6_setStyle 5 = .ok (.astore 4, 2) := by decide +kernel
theorem dX6_setStyle_7 : decode cX6_setStyle 7 = .ok (.iload_n 2, 1) := by decide +kernel
theorem dX6_setStyle_8 : decode cX6_setStyle 8 = .ok (.iconst 0, 1) := by decide +kernel
theorem dX6_setStyle_9 : decode cX6_setStyle 9 = .ok (.bipush 9, 2) := by decide +kernel
theorem dX6_setStyle_11 : decode cX6_setStyle 11 = .ok (.invokestatic 95, 3) := by decide +kernel
theorem dX6_setStyle_14 : decode cX6_setStyle 14 = .ok (.ifCond .eq 12, 3) := by decide +kernel
theorem dX6_setStyle_17 : decode cX6_setStyle 17 = .ok (.iload_n 3, 1) := by decide +kernel
theorem dX6_setStyle_18 : decode cX6_setStyle 18 = .ok (.iconst 0, 1) := by decide +kernel
theorem dX6_setStyle_19 : decode cX6_setStyle 19 = .ok (.iconst 3, 1) := by decide +kernel
theorem dX6_setStyle_20 : decode cX6_setStyle 20 = .ok (.invokestatic 95, 3) := by decide +kernel
theorem dX6_setStyle_23 : decode cX6_setStyle 23 = .ok (.ifCond .ne 11, 3) := by decide +kernel
theorem dX6_setStyle_26 : decode cX6_setStyle 26 = .ok (.new 58, 3) := by decide +kernel
theorem dX6_setStyle_29 : decode cX6_setStyle 29 = .ok (.dup, 1) := by decide +kernel
theorem dX6_setStyle_30 : decode cX6_setStyle 30 = .ok (.invokespecial 60, 3) := by decide +kernel
theorem dX6_setStyle_33 : decode cX6_setStyle 33 = .ok (.athrow, 1) := by decide +kernel
theorem dX6_setStyle_34 : decode cX6_setStyle 34 = .ok (.bipush 10, 2) := by decide +kernel
theorem dX6_setStyle_36 : decode cX6_setStyle 36 = .ok (.aload 4, 2) := by decide +kernel
theorem dX6_setStyle_38 : decode cX6_setStyle 38 = .ok (.getfield 102, 3) := by decide +kernel
theorem dX6_setStyle_41 : decode cX6_setStyle 41 = .ok (.imul, 1) := by decide +kernel
theorem dX6_setStyle_42 : decode cX6_setStyle 42 = .ok (.aload 4, 2) := by decide +kernel
theorem dX6_setStyle_44 : decode cX6_setStyle 44 = .ok (.getfield 105, 3) := by decide +kernel
theorem dX6_setStyle_47 : decode cX6_setStyle 47 = .ok (.iadd, 1) := by decide +kernel
theorem dX6_setStyle_48 : decode cX6_setStyle 48 = .ok (.istore 5, 2) := by decide +kernel
theorem dX6_setStyle_50 : decode cX6_setStyle 50 = .ok (.aload 4, 2) := by decide +kernel
theorem dX6_setStyle_52 : decode cX6_setStyle 52 = .ok (.iload_n 2, 1) := by decide +kernel
theorem dX6_setStyle_53 : decode cX6_setStyle 53 = .ok (.putfield 102, 3) := by decide +kernel
theorem dX6_setStyle_56 : decode cX6_setStyle 56 = .ok (.aload 4, 2) := by decide +kernel
theorem dX6_setStyle_58 : decode cX6_setStyle 58 = .ok (.iload_n 3, 1) := by decide +kernel
theorem dX6_setStyle_59 : decode cX6_setStyle 59 = .ok (.putfield 105, 3) := by decide +kernel
theorem dX6_setStyle_62 : decode cX6_setStyle 62 = .ok (.iload 5, 2) := by decide +kernel
theorem dX6_setStyle_64 : decode cX6_setStyle 64 = .ok (.ireturn, 1) := by decide +kernel
theorem dX6_rules_0 : decode cX6_rules 0 = .ok (.aload_n 0, 1) := by decide +kernel
theorem dX6_rules_1 : decode cX6_rules 1 = .ok (.getfield 12, 3) := by decide +kernel
theorem dX6_rules_4 : decode cX6_rules 4 = .ok (.invokevirtual 108, 3) := by decide +kernel
theorem dX6_rules_7 : decode cX6_rules 7 = .ok (.ireturn, 1) := by decide +kernel
theorem dX6_addText_0 : decode cX6_addText 0 = .ok (.iload_n 1, 1) := by decide +kernel
theorem dX6_addText_1 : decode cX6_addText 1 = .ok (.invokestatic 112, 3) := by decide +kernel
theorem dX6_addText_4 : decode cX6_addText 4 = .ok (.aload_n 0, 1) := by decide +kernel
theorem dX6_addText_5 : decode cX6_addText 5 = .ok (.getfield 43, 3) := by decide +kernel
theorem dX6_addText_8 : decode cX6_addText 8 = .ok (.ifCond .lt 15, 3) := by decide +kernel
theorem dX6_addText_11 : decode cX6_addText 11 = .ok (.aload_n 0, 1) := by decide +kernel
theorem dX6_addText_12 : decode cX6_addText 12 = .ok (.getfield 43, 3) := by decide +kernel
theorem dX6_addText_15 : decode cX6_addText 15 = .ok (.aload_n 0, 1) := by decide +kernel
theorem dX6_addText_16 : decode cX6_addText 16 = .ok (.getfield 18, 3) := by decide +kernel
theorem dX6_addText_19 : decode cX6_addText 19 = .ok (.arraylength, 1) := by decide +kernel
theorem dX6_addText_20 : decode cX6_addText 20 = .ok (.if_icmp .lt 11, 3) := by decide +kernel
theorem dX6_addText_23 : decode cX6_addText 23 = .ok (.new 65, 3) := by decide +kernel
theorem dX6_addText_26 : decode cX6_addText 26 = .ok (.dup, 1) := by decide +kernel
theorem dX6_addText_27 : decode cX6_addText 27 = .ok (.invokespecial 67, 3) := by decide +kernel
theorem dX6_addText_30 : decode cX6_addText 30 = .ok (.athrow, 1) := by decide +kernel
theorem dX6_addText_31 : decode cX6_addText 31 = .ok (.new 16, 3) := by decide +kernel
theorem dX6_addText_34 : decode cX6_addText 34 = .ok (.dup, 1) := by decide +kernel
theorem dX6_addText_35 : decode cX6_addText 35 = .ok (.invokespecial 116, 3) := by decide +kernel
theorem dX6_addText_38 : decode cX6_addText 38 = .ok (.astore_n 2, 1) := by decide +kernel
theorem dX6_addText_39 : decode cX6_addText 39 = .ok (.aload_n 2, 1) := by decide +kernel
theorem dX6_addText_40 : decode cX6_addText 40 = .ok (.getfield 117, 3) := by decide +kernel
theorem dX6_addText_43 : decode cX6_addText 43 = .ok (.iload_n 1, 1) := by decide +kernel
theorem dX6_addText_44 : decode cX6_addText 44 = .ok (.invokevirtual 120, 3) := by decide +kernel
theorem dX6_addText_47 : decode cX6_addText 47 = .ok (.aload_n 0, 1) := by decide +kernel
theorem dX6_addText_48 : decode cX6_addText 48 = .ok (.getfield 43, 3) := by decide +kernel
theorem dX6_addText_51 : decode cX6_addText 51 = .ok (.istore_n 3, 1) := by decide +kernel
theorem dX6_addText_52 : decode cX6_addText 52 = .ok (.aload_n 0, 1) := by decide +kernel
theorem dX6_addText_53 : decode cX6_addText 53 = .ok (.getfield 18, 3) := by decide +kernel
theorem dX6_addText_56 : decode cX6_addText 56 = .ok (.iload_n 3, 1) := by decide +kernel
theorem dX6_addText_57 : decode cX6_addText 57 = .ok (.aload_n 2, 1) := by decide +kernel
theorem dX6_addText_58 : decode cX6_addText 58 = .ok (.aastore, 1) := by decide +kernel
theorem dX6_addText_59 : decode cX6_addText 59 = .ok (.aload_n 0, 1) := by decide +kernel
theorem dX6_addText_60 : decode cX6_addText 60 = .ok (.dup, 1) := by decide +kernel
theorem dX6_addText_61 : decode cX6_addText 61 = .ok (.getfield 43, 3) := by decide +kernel
theorem dX6_addText_64 : decode cX6_addText 64 = .ok (.iconst 1, 1) := by decide +kernel
theorem dX6_addText_65 : decode cX6_addText 65 = .ok (.iadd, 1) := by decide +kernel
theorem dX6_addText_66 : decode cX6_addText 66 = .ok (.putfield 43, 3) := by decide +kernel
theorem dX6_addText_69 : decode cX6_addText 69 = .ok (.aload_n 0, 1) := by decide +kernel
theorem dX6_addText_70 : decode cX6_addText 70 = .ok (.dup, 1) := by decide +kernel
theorem dX6_addText_71 : decode cX6_addText 71 = .ok (.getfield 50, 3) := by decide +kernel
theorem dX6_addText_74 : decode cX6_addText 74 = .ok (.aload_n 2, 1) := by decide +kernel
theorem dX6_addText_75 : decode cX6_addText 75 = .ok (.getfield 117, 3) := by decide +kernel
theorem dX6_addText_78 : decode cX6_addText 78 = .ok (.aload_n 0, 1) := by decide +kernel
theorem dX6_addText_79 : decode cX6_addText 79 = .ok (.getfield 12, 3) := by decide +kernel
theorem dX6_addText_82 : decode cX6_addText 82 = .ok (.iconst 0, 1) := by decide +kernel
theorem dX6_addText_83 : decode cX6_addText 83 = .ok (.invokevirtual 123, 3) := by decide +kernel
theorem dX6_addText_86 : decode cX6_addText 86 = .ok (.i2l, 1) := by decide +kernel
theorem dX6_addText_87 : decode cX6_addText 87 = .ok (.ladd, 1) := by decide +kernel
theorem dX6_addText_88 : decode cX6_addText 88 = .ok (.putfield 50, 3) := by decide +kernel
theorem dX6_addText_91 : decode cX6_addText 91 = .ok (.iload_n 3, 1) := by decide +kernel
theorem dX6_addText_92 : decode cX6_addText 92 = .ok (.ireturn, 1) := by decide +kernel
theorem dX6_addLetter_0 : decode cX6_addLetter 0 = .ok (.aload_n 0, 1) := by decide +kernel
theorem dX6_addLetter_1 : decode cX6_addLetter 1 = .ok (.iload_n 1, 1) := by decide +kernel
theorem dX6_addLetter_2 : decode cX6_addLetter 2 = .ok (.invokevirtual 127, 3) := by decide +kernel
theorem dX6_addLetter_5 : decode cX6_addLetter 5 = .ok (.getfield 117, 3) := by decide +kernel
theorem dX6_addLetter_8 : decode cX6_addLetter 8 = .ok (.astore_n 3, 1) := by decide +kernel
theorem dX6_addLetter_9 : decode cX6_addLetter 9 = .ok (.iload_n 2, 1) := by decide +kernel
theorem dX6_addLetter_10 : decode cX6_addLetter 10 = .ok (.invokestatic 112, 3) := by decide +kernel
theorem dX6_addLetter_13 : decode cX6_addLetter 13 = .ok (.aload_n 3, 1) := by decide +kernel
theorem dX6_addLetter_14 : decode cX6_addLetter 14 = .ok (.getfield 131, 3) := by decide +kernel
theorem dX6_addLetter_17 : decode cX6_addLetter 17 = .ok (.bipush 10, 2) := by decide +kernel
theorem dX6_addLetter_19 : decode cX6_addLetter 19 = .ok (.if_icmp .lt 11, 3) := by decide +kernel
theorem dX6_addLetter_22 : decode cX6_addLetter 22 = .ok (.new 65, 3) := by decide +kernel
theorem dX6_addLetter_25 : decode cX6_addLetter 25 = .ok (.dup, 1) := by decide +kernel
theorem dX6_addLetter_26 : decode cX6_addLetter 26 = .ok (.invokespecial 67, 3) := by decide +kernel
theorem dX6_addLetter_29 : decode cX6_addLetter 29 = .ok (.athrow, 1) := by decide +kernel
theorem dX6_addLetter_30 : decode cX6_addLetter 30 = .ok (.aload_n 3, 1) := by decide +kernel
theorem dX6_addLetter_31 : decode cX6_addLetter 31 = .ok (.iload_n 2, 1) := by decide +kernel
theorem dX6_addLetter_32 : decode cX6_addLetter 32 = .ok (.invokevirtual 120, 3) := by decide +kernel
theorem dX6_addLetter_35 : decode cX6_addLetter 35 = .ok (.aload_n 0, 1) := by decide +kernel
theorem dX6_addLetter_36 : decode cX6_addLetter 36 = .ok (.dup, 1) := by decide +kernel
theorem dX6_addLetter_37 : decode cX6_addLetter 37 = .ok (.getfield 50, 3) := by decide +kernel
theorem dX6_addLetter_40 : decode cX6_addLetter 40 = .ok (.aload_n 3, 1) := by decide +kernel
theorem dX6_addLetter_41 : decode cX6_addLetter 41 = .ok (.aload_n 0, 1) := by decide +kernel
theorem dX6_addLetter_42 : decode cX6_addLetter 42 = .ok (.getfield 12, 3) := by decide +kernel
theorem dX6_addLetter_45 : decode cX6_addLetter 45 = .ok (.aload_n 3, 1) := by decide +kernel
theorem dX6_addLetter_46 : decode cX6_addLetter 46 = .ok (.getfield 131, 3) := by decide +kernel
theorem dX6_addLetter_49 : decode cX6_addLetter 49 = .ok (.iconst 1, 1) := by decide +kernel
theorem dX6_addLetter_50 : decode cX6_addLetter 50 = .ok (.isub, 1) := by decide +kernel
theorem dX6_addLetter_51 : decode cX6_addLetter 51 = .ok (.invokevirtual 123, 3) := by decide +kernel
theorem dX6_addLetter_54 : decode cX6_addLetter 54 = .ok (.i2l, 1) := by decide +kernel
theorem dX6_addLetter_55 : decode cX6_addLetter 55 = .ok (.ladd, 1) := by decide +kernel
theorem dX6_addLetter_56 : decode cX6_addLetter 56 = .ok (.putfield 50, 3) := by decide +kernel
theorem dX6_addLetter_59 : decode cX6_addLetter 59 = .ok (.aload_n 3, 1) := by decide +kernel
theorem dX6_addLetter_60 : decode cX6_addLetter 60 = .ok (.invokevirtual 134, 3) := by decide +kernel
theorem dX6_addLetter_63 : decode cX6_addLetter 63 = .ok (.ireturn, 1) := by decide +kernel
theorem dX6_replace_0 : decode cX6_replace 0 = .ok (.aload_n 0, 1) := by decide +kernel
theorem dX6_replace_1 : decode cX6_replace 1 = .ok (.iload_n 1, 1) := by decide +kernel
theorem dX6_replace_2 : decode cX6_replace 2 = .ok (.invokevirtual 127, 3) := by decide +kernel
theorem dX6_replace_5 : decode cX6_replace 5 = .ok (.getfield 117, 3) := by decide +kernel
theorem dX6_replace_8 : decode cX6_replace 8 = .ok (.astore 4, 2) := by decide +kernel
theorem dX6_replace_10 : decode cX6_replace 10 = .ok (.aload 4, 2) := by decide +kernel
theorem dX6_replace_12 : decode cX6_replace 12 = .ok (.iload_n 2, 1) := by decide +kernel
theorem dX6_replace_13 : decode cX6_replace 13 = .ok (.invokestatic 137, 3) := by decide +kernel
theorem dX6_replace_16 : decode cX6_replace 16 = .ok (.iload_n 3, 1) := by decide +kernel
theorem dX6_replace_17 : decode cX6_replace 17 = .ok (.invokestatic 112, 3) := by decide +kernel
theorem dX6_replace_20 : decode cX6_replace 20 = .ok (.aload 4, 2) := by decide +kernel
theorem dX6_replace_22 : decode cX6_replace 22 = .ok (.iload_n 2, 1) := by decide +kernel
theorem dX6_replace_23 : decode cX6_replace 23 = .ok (.iload_n 3, 1) := by decide +kernel
theorem dX6_replace_24 : decode cX6_replace 24 = .ok (.invokevirtual 141, 3) := by decide +kernel
theorem dX6_replace_27 : decode cX6_replace 27 = .ok (.aload_n 0, 1) := by decide +kernel
theorem dX6_replace_28 : decode cX6_replace 28 = .ok (.dup, 1) := by decide +kernel
theorem dX6_replace_29 : decode cX6_replace 29 = .ok (.getfield 50, 3) := by decide +kernel
theorem dX6_replace_32 : decode cX6_replace 32 = .ok (.aload 4, 2) := by decide +kernel
theorem dX6_replace_34 : decode cX6_replace 34 = .ok (.aload_n 0, 1) := by decide +kernel
theorem dX6_replace_35 : decode cX6_replace 35 = .ok (.getfield 12, 3) := by decide +kernel
theorem dX6_replace_38 : decode cX6_replace 38 = .ok (.iload_n 2, 1) := by decide +kernel
theorem dX6_replace_39 : decode cX6_replace 39 = .ok (.invokevirtual 123, 3) := by decide +kernel
theorem dX6_replace_42 : decode cX6_replace 42 = .ok (.i2l, 1) := by decide +kernel
theorem dX6_replace_43 : decode cX6_replace 43 = .ok (.ladd, 1) := by decide +kernel
theorem dX6_replace_44 : decode cX6_replace 44 = .ok (.putfield 50, 3) := by decide +kernel
theorem dX6_replace_47 : decode cX6_replace 47 = .ok (.aload 4, 2) := by decide +kernel
theorem dX6_replace_49 : decode cX6_replace 49 = .ok (.invokevirtual 134, 3) := by decide +kernel
theorem dX6_replace_52 : decode cX6_replace 52 = .ok (.ireturn, 1) := by decide +kernel
theorem dX6_length_0 : decode cX6_length 0 = .ok (.aload_n 0, 1) := by decide +kernel
theorem dX6_length_1 : decode cX6_length 1 = .ok (.iload_n 1, 1) := by decide +kernel
theorem dX6_length_2 : decode cX6_length 2 = .ok (.invokevirtual 127, 3) := by decide +kernel
theorem dX6_length_5 : decode cX6_length 5 = .ok (.getfield 117, 3) := by decide +kernel
theorem dX6_length_8 : decode cX6_length 8 = .ok (.getfield 131, 3) := by decide +kernel
theorem dX6_length_11 : decode cX6_length 11 = .ok (.ireturn, 1) := by decide +kernel
theorem dX6_letterAt_0 : decode cX6_letterAt 0 = .ok (.aload_n 0, 1) := by decide +kernel
theorem dX6_letterAt_1 : decode cX6_letterAt 1 = .ok (.iload_n 1, 1) := by decide +kernel
theorem dX6_letterAt_2 : decode cX6_letterAt 2 = .ok (.invokevirtual 127, 3) := by decide +kernel
theorem dX6_letterAt_5 : decode cX6_letterAt 5 = .ok (.getfield 117, 3) := by decide +kernel
theorem dX6_letterAt_8 : decode cX6_letterAt 8 = .ok (.astore_n 3, 1) := by decide +kernel
theorem dX6_letterAt_9 : decode cX6_letterAt 9 = .ok (.aload_n 3, 1) := by decide +kernel
theorem dX6_letterAt_10 : decode cX6_letterAt 10 = .ok (.iload_n 2, 1) := by decide +kernel
theorem dX6_letterAt_11 : decode cX6_letterAt 11 = .ok (.invokestatic 137, 3) := by decide +kernel
theorem dX6_letterAt_14 : decode cX6_letterAt 14 = .ok (.aload_n 3, 1) := by decide +kernel
theorem dX6_letterAt_15 : decode cX6_letterAt 15 = .ok (.iload_n 2, 1) := by decide +kernel
theorem dX6_letterAt_16 : decode cX6_letterAt 16 = .ok (.invokevirtual 144, 3) := by decide +kernel
theorem dX6_letterAt_19 : decode cX6_letterAt 19 = .ok (.ireturn, 1) := by decide +kernel
theorem dX6_trees_0 : decode cX6_trees 0 = .ok (.aload_n 0, 1) := by decide +kernel
theorem dX6_trees_1 : decode cX6_trees 1 = .ok (.iload_n 1, 1) := by decide +kernel
theorem dX6_trees_2 : decode cX6_trees 2 = .ok (.invokevirtual 127, 3) := by decide +kernel
theorem dX6_trees_5 : decode cX6_trees 5 = .ok (.getfield 117, 3) := by decide +kernel
theorem dX6_trees_8 : decode cX6_trees 8 = .ok (.invokevirtual 134, 3) := by decide +kernel
theorem dX6_trees_11 : decode cX6_trees 11 = .ok (.ireturn, 1) := by decide +kernel
theorem dX6_treesByTrying_0 : decode cX6_treesByTrying 0 = .ok (.aload_n 0, 1) := by decide +kernel
theorem dX6_treesByTrying_1 : decode cX6_treesByTrying 1 = .ok (.iload_n 1, 1) := by decide +kernel
theorem dX6_treesByTrying_2 : decode cX6_treesByTrying 2 = .ok (.invokevirtual 127, 3) := by decide +kernel
theorem dX6_treesByTrying_5 : decode cX6_treesByTrying 5 = .ok (.getfield 117, 3) := by decide +kernel
theorem dX6_treesByTrying_8 : decode cX6_treesByTrying 8 = .ok (.astore_n 2, 1) := by decide +kernel
theorem dX6_treesByTrying_9 : decode cX6_treesByTrying 9 = .ok (.aload_n 2, 1) := by decide +kernel
theorem dX6_treesByTrying_10 : decode cX6_treesByTrying 10 = .ok (.getfield 131, 3) := by decide +kernel
theorem dX6_treesByTrying_13 : decode cX6_treesByTrying 13 = .ok (.iconst 5, 1) := by decide +kernel
theorem dX6_treesByTrying_14 : decode cX6_treesByTrying 14 = .ok (.if_icmp .le 11, 3) := by decide +kernel
theorem dX6_treesByTrying_17 : decode cX6_treesByTrying 17 = .ok (.new 148, 3) := by decide +kernel
theorem dX6_treesByTrying_20 : decode cX6_treesByTrying 20 = .ok (.dup, 1) := by decide +kernel
theorem dX6_treesByTrying_21 : decode cX6_treesByTrying 21 = .ok (.invokespecial 150, 3) := by decide +kernel
theorem dX6_treesByTrying_24 : decode cX6_treesByTrying 24 = .ok (.athrow, 1) := by decide +kernel
theorem dX6_treesByTrying_25 : decode cX6_treesByTrying 25 = .ok (.aload_n 0, 1) := by decide +kernel
theorem dX6_treesByTrying_26 : decode cX6_treesByTrying 26 = .ok (.getfield 39, 3) := by decide +kernel
theorem dX6_treesByTrying_29 : decode cX6_treesByTrying 29 = .ok (.aload_n 0, 1) := by decide +kernel
theorem dX6_treesByTrying_30 : decode cX6_treesByTrying 30 = .ok (.getfield 12, 3) := by decide +kernel
theorem dX6_treesByTrying_33 : decode cX6_treesByTrying 33 = .ok (.aload_n 2, 1) := by decide +kernel
theorem dX6_treesByTrying_34 : decode cX6_treesByTrying 34 = .ok (.invokevirtual 151, 3) := by decide +kernel
theorem dX6_treesByTrying_37 : decode cX6_treesByTrying 37 = .ok (.ireturn, 1) := by decide +kernel
theorem dX6_treesOver_0 : decode cX6_treesOver 0 = .ok (.aload_n 0, 1) := by decide +kernel
theorem dX6_treesOver_1 : decode cX6_treesOver 1 = .ok (.iload_n 1, 1) := by decide +kernel
theorem dX6_treesOver_2 : decode cX6_treesOver 2 = .ok (.invokevirtual 127, 3) := by decide +kernel
theorem dX6_treesOver_5 : decode cX6_treesOver 5 = .ok (.getfield 117, 3) := by decide +kernel
theorem dX6_treesOver_8 : decode cX6_treesOver 8 = .ok (.astore 5, 2) := by decide +kernel
theorem dX6_treesOver_10 : decode cX6_treesOver 10 = .ok (.aload 5, 2) := by decide +kernel
theorem dX6_treesOver_12 : decode cX6_treesOver 12 = .ok (.iload_n 3, 1) := by decide +kernel
theorem dX6_treesOver_13 : decode cX6_treesOver 13 = .ok (.invokestatic 137, 3) := by decide +kernel
theorem dX6_treesOver_16 : decode cX6_treesOver 16 = .ok (.aload 5, 2) := by decide +kernel
theorem dX6_treesOver_18 : decode cX6_treesOver 18 = .ok (.iload 4, 2) := by decide +kernel
theorem dX6_treesOver_20 : decode cX6_treesOver 20 = .ok (.invokestatic 137, 3) := by decide +kernel
theorem dX6_treesOver_23 : decode cX6_treesOver 23 = .ok (.iload_n 2, 1) := by decide +kernel
theorem dX6_treesOver_24 : decode cX6_treesOver 24 = .ok (.invokestatic 154, 3) := by decide +kernel
theorem dX6_treesOver_27 : decode cX6_treesOver 27 = .ok (.ifCond .eq 9, 3) := by decide +kernel
theorem dX6_treesOver_30 : decode cX6_treesOver 30 = .ok (.iload 4, 2) := by decide +kernel
theorem dX6_treesOver_32 : decode cX6_treesOver 32 = .ok (.iload_n 3, 1) := by decide +kernel
theorem dX6_treesOver_33 : decode cX6_treesOver 33 = .ok (.if_icmp .ge 11, 3) := by decide +kernel
theorem dX6_treesOver_36 : decode cX6_treesOver 36 = .ok (.new 58, 3) := by decide +kernel
theorem dX6_treesOver_39 : decode cX6_treesOver 39 = .ok (.dup, 1) := by decide +kernel
theorem dX6_treesOver_40 : decode cX6_treesOver 40 = .ok (.invokespecial 60, 3) := by decide +kernel
theorem dX6_treesOver_43 : decode cX6_treesOver 43 = .ok (.athrow, 1) := by decide +kernel
theorem dX6_treesOver_44 : decode cX6_treesOver 44 = .ok (.aload 5, 2) := by decide +kernel
theorem dX6_treesOver_46 : decode cX6_treesOver 46 = .ok (.iload_n 2, 1) := by decide +kernel
theorem dX6_treesOver_47 : decode cX6_treesOver 47 = .ok (.iload_n 3, 1) := by decide +kernel
theorem dX6_treesOver_48 : decode cX6_treesOver 48 = .ok (.iload 4, 2) := by decide +kernel
theorem dX6_treesOver_50 : decode cX6_treesOver 50 = .ok (.invokevirtual 158, 3) := by decide +kernel
theorem dX6_treesOver_53 : decode cX6_treesOver 53 = .ok (.ireturn, 1) := by decide +kernel
theorem dX6_size_0 : decode cX6_size 0 = .ok (.aload_n 0, 1) := by decide +kernel
theorem dX6_size_1 : decode cX6_size 1 = .ok (.iload_n 1, 1) := by decide +kernel
theorem dX6_size_2 : decode cX6_size 2 = .ok (.invokevirtual 162, 3) := by decide +kernel
theorem dX6_size_5 : decode cX6_size 5 = .ok (.aload_n 0, 1) := by decide +kernel
theorem dX6_size_6 : decode cX6_size 6 = .ok (.getfield 32, 3) := by decide +kernel
theorem dX6_size_9 : decode cX6_size 9 = .ok (.getfield 165, 3) := by decide +kernel
theorem dX6_size_12 : decode cX6_size 12 = .ok (.ireturn, 1) := by decide +kernel
theorem dX6_ruleAt_0 : decode cX6_ruleAt 0 = .ok (.aload_n 0, 1) := by decide +kernel
theorem dX6_ruleAt_1 : decode cX6_ruleAt 1 = .ok (.iload_n 1, 1) := by decide +kernel
theorem dX6_ruleAt_2 : decode cX6_ruleAt 2 = .ok (.invokevirtual 162, 3) := by decide +kernel
theorem dX6_ruleAt_5 : decode cX6_ruleAt 5 = .ok (.iload_n 2, 1) := by decide +kernel
theorem dX6_ruleAt_6 : decode cX6_ruleAt 6 = .ok (.ifCond .lt 14, 3) := by decide +kernel
theorem dX6_ruleAt_9 : decode cX6_ruleAt 9 = .ok (.iload_n 2, 1) := by decide +kernel
theorem dX6_ruleAt_10 : decode cX6_ruleAt 10 = .ok (.aload_n 0, 1) := by decide +kernel
theorem dX6_ruleAt_11 : decode cX6_ruleAt 11 = .ok (.getfield 32, 3) := by decide +kernel
theorem dX6_ruleAt_14 : decode cX6_ruleAt 14 = .ok (.getfield 165, 3) := by decide +kernel
theorem dX6_ruleAt_17 : decode cX6_ruleAt 17 = .ok (.if_icmp .lt 11, 3) := by decide +kernel
theorem dX6_ruleAt_20 : decode cX6_ruleAt 20 = .ok (.new 168, 3) := by decide +kernel
theorem dX6_ruleAt_23 : decode cX6_ruleAt 23 = .ok (.dup, 1) := by decide +kernel
theorem dX6_ruleAt_24 : decode cX6_ruleAt 24 = .ok (.invokespecial 170, 3) := by decide +kernel
theorem dX6_ruleAt_27 : decode cX6_ruleAt 27 = .ok (.athrow, 1) := by decide +kernel
theorem dX6_ruleAt_28 : decode cX6_ruleAt 28 = .ok (.aload_n 0, 1) := by decide +kernel
theorem dX6_ruleAt_29 : decode cX6_ruleAt 29 = .ok (.getfield 32, 3) := by decide +kernel
theorem dX6_ruleAt_32 : decode cX6_ruleAt 32 = .ok (.iload_n 2, 1) := by decide +kernel
theorem dX6_ruleAt_33 : decode cX6_ruleAt 33 = .ok (.invokevirtual 171, 3) := by decide +kernel
theorem dX6_ruleAt_36 : decode cX6_ruleAt 36 = .ok (.ireturn, 1) := by decide +kernel
theorem dX6_depth_0 : decode cX6_depth 0 = .ok (.aload_n 0, 1) := by decide +kernel
theorem dX6_depth_1 : decode cX6_depth 1 = .ok (.iload_n 1, 1) := by decide +kernel
theorem dX6_depth_2 : decode cX6_depth 2 = .ok (.invokevirtual 162, 3) := by decide +kernel
theorem dX6_depth_5 : decode cX6_depth 5 = .ok (.aload_n 0, 1) := by decide +kernel
theorem dX6_depth_6 : decode cX6_depth 6 = .ok (.getfield 32, 3) := by decide +kernel
theorem dX6_depth_9 : decode cX6_depth 9 = .ok (.getfield 174, 3) := by decide +kernel
theorem dX6_depth_12 : decode cX6_depth 12 = .ok (.ireturn, 1) := by decide +kernel
theorem dX6_colourAt_0 : decode cX6_colourAt 0 = .ok (.aload_n 0, 1) := by decide +kernel
theorem dX6_colourAt_1 : decode cX6_colourAt 1 = .ok (.iload_n 1, 1) := by decide +kernel
theorem dX6_colourAt_2 : decode cX6_colourAt 2 = .ok (.invokevirtual 127, 3) := by decide +kernel
theorem dX6_colourAt_5 : decode cX6_colourAt 5 = .ok (.getfield 117, 3) := by decide +kernel
theorem dX6_colourAt_8 : decode cX6_colourAt 8 = .ok (.astore_n 3, 1) := by decide +kernel
theorem dX6_colourAt_9 : decode cX6_colourAt 9 = .ok (.aload_n 3, 1) := by decide +kernel
theorem dX6_colourAt_10 : decode cX6_colourAt 10 = .ok (.iload_n 2, 1) := by decide +kernel
theorem dX6_colourAt_11 : decode cX6_colourAt 11 = .ok (.invokestatic 137, 3) := by decide +kernel
theorem dX6_colourAt_14 : decode cX6_colourAt 14 = .ok (.aload_n 0, 1) := by decide +kernel
theorem dX6_colourAt_15 : decode cX6_colourAt 15 = .ok (.getfield 32, 3) := by decide +kernel
theorem dX6_colourAt_18 : decode cX6_colourAt 18 = .ok (.aload_n 0, 1) := by decide +kernel
theorem dX6_colourAt_19 : decode cX6_colourAt 19 = .ok (.getfield 12, 3) := by decide +kernel
theorem dX6_colourAt_22 : decode cX6_colourAt 22 = .ok (.aload_n 3, 1) := by decide +kernel
theorem dX6_colourAt_23 : decode cX6_colourAt 23 = .ok (.invokevirtual 177, 3) := by decide +kernel
theorem dX6_colourAt_26 : decode cX6_colourAt 26 = .ok (.aload_n 0, 1) := by decide +kernel
theorem dX6_colourAt_27 : decode cX6_colourAt 27 = .ok (.getfield 32, 3) := by decide +kernel
theorem dX6_colourAt_30 : decode cX6_colourAt 30 = .ok (.iload_n 2, 1) := by decide +kernel
theorem dX6_colourAt_31 : decode cX6_colourAt 31 = .ok (.invokevirtual 181, 3) := by decide +kernel
theorem dX6_colourAt_34 : decode cX6_colourAt 34 = .ok (.ireturn, 1) := by decide +kernel
theorem dX6_formatted_0 : decode cX6_formatted 0 = .ok (.aload_n 0, 1) := by decide +kernel
theorem dX6_formatted_1 : decode cX6_formatted 1 = .ok (.iload_n 1, 1) := by decide +kernel
theorem dX6_formatted_2 : decode cX6_formatted 2 = .ok (.invokevirtual 162, 3) := by decide +kernel
theorem dX6_formatted_5 : decode cX6_formatted 5 = .ok (.aload_n 0, 1) := by decide +kernel
theorem dX6_formatted_6 : decode cX6_formatted 6 = .ok (.getfield 32, 3) := by decide +kernel
theorem dX6_formatted_9 : decode cX6_formatted 9 = .ok (.invokevirtual 184, 3) := by decide +kernel
theorem dX6_formatted_12 : decode cX6_formatted 12 = .ok (.ireturn, 1) := by decide +kernel
theorem dX6_formattedAt_0 : decode cX6_formattedAt 0 = .ok (.aload_n 0, 1) := by decide +kernel
theorem dX6_formattedAt_1 : decode cX6_formattedAt 1 = .ok (.iload_n 1, 1) := by decide +kernel
theorem dX6_formattedAt_2 : decode cX6_formattedAt 2 = .ok (.invokevirtual 127, 3) := by decide +kernel
theorem dX6_formattedAt_5 : decode cX6_formattedAt 5 = .ok (.getfield 117, 3) := by decide +kernel
theorem dX6_formattedAt_8 : decode cX6_formattedAt 8 = .ok (.astore_n 3, 1) := by decide +kernel
theorem dX6_formattedAt_9 : decode cX6_formattedAt 9 = .ok (.aload_n 0, 1) := by decide +kernel
theorem dX6_formattedAt_10 : decode cX6_formattedAt 10 = .ok (.getfield 32, 3) := by decide +kernel
theorem dX6_formattedAt_13 : decode cX6_formattedAt 13 = .ok (.aload_n 0, 1) := by decide +kernel
theorem dX6_formattedAt_14 : decode cX6_formattedAt 14 = .ok (.getfield 12, 3) := by decide +kernel
theorem dX6_formattedAt_17 : decode cX6_formattedAt 17 = .ok (.aload_n 3, 1) := by decide +kernel
theorem dX6_formattedAt_18 : decode cX6_formattedAt 18 = .ok (.invokevirtual 177, 3) := by decide +kernel
theorem dX6_formattedAt_21 : decode cX6_formattedAt 21 = .ok (.iload_n 2, 1) := by decide +kernel
theorem dX6_formattedAt_22 : decode cX6_formattedAt 22 = .ok (.ifCond .lt 14, 3) := by decide +kernel
theorem dX6_formattedAt_25 : decode cX6_formattedAt 25 = .ok (.iload_n 2, 1) := by decide +kernel
theorem dX6_formattedAt_26 : decode cX6_formattedAt 26 = .ok (.aload_n 0, 1) := by decide +kernel
theorem dX6_formattedAt_27 : decode cX6_formattedAt 27 = .ok (.getfield 32, 3) := by decide +kernel
theorem dX6_formattedAt_30 : decode cX6_formattedAt 30 = .ok (.invokevirtual 184, 3) := by decide +kernel
theorem dX6_formattedAt_33 : decode cX6_formattedAt 33 = .ok (.if_icmp .lt 11, 3) := by decide +kernel
theorem dX6_formattedAt_36 : decode cX6_formattedAt 36 = .ok (.new 168, 3) := by decide +kernel
theorem dX6_formattedAt_39 : decode cX6_formattedAt 39 = .ok (.dup, 1) := by decide +kernel
theorem dX6_formattedAt_40 : decode cX6_formattedAt 40 = .ok (.invokespecial 170, 3) := by decide +kernel
theorem dX6_formattedAt_43 : decode cX6_formattedAt 43 = .ok (.athrow, 1) := by decide +kernel
theorem dX6_formattedAt_44 : decode cX6_formattedAt 44 = .ok (.aload_n 0, 1) := by decide +kernel
theorem dX6_formattedAt_45 : decode cX6_formattedAt 45 = .ok (.getfield 32, 3) := by decide +kernel
theorem dX6_formattedAt_48 : decode cX6_formattedAt 48 = .ok (.aload_n 3, 1) := by decide +kernel
theorem dX6_formattedAt_49 : decode cX6_formattedAt 49 = .ok (.iload_n 2, 1) := by decide +kernel
theorem dX6_formattedAt_50 : decode cX6_formattedAt 50 = .ok (.invokevirtual 187, 3) := by decide +kernel
theorem dX6_formattedAt_53 : decode cX6_formattedAt 53 = .ok (.ireturn, 1) := by decide +kernel
theorem dX6_accept_0 : decode cX6_accept 0 = .ok (.aload_n 0, 1) := by decide +kernel
theorem dX6_accept_1 : decode cX6_accept 1 = .ok (.iload_n 1, 1) := by decide +kernel
theorem dX6_accept_2 : decode cX6_accept 2 = .ok (.invokevirtual 127, 3) := by decide +kernel
theorem dX6_accept_5 : decode cX6_accept 5 = .ok (.astore_n 2, 1) := by decide +kernel
theorem dX6_accept_6 : decode cX6_accept 6 = .ok (.aload_n 0, 1) := by decide +kernel
theorem dX6_accept_7 : decode cX6_accept 7 = .ok (.getfield 32, 3) := by decide +kernel
theorem dX6_accept_10 : decode cX6_accept 10 = .ok (.aload_n 0, 1) := by decide +kernel
theorem dX6_accept_11 : decode cX6_accept 11 = .ok (.getfield 12, 3) := by decide +kernel
theorem dX6_accept_14 : decode cX6_accept 14 = .ok (.aload_n 2, 1) := by decide +kernel
theorem dX6_accept_15 : decode cX6_accept 15 = .ok (.getfield 117, 3) := by decide +kernel
theorem dX6_accept_18 : decode cX6_accept 18 = .ok (.invokevirtual 177, 3) := by decide +kernel
theorem dX6_accept_21 : decode cX6_accept 21 = .ok (.aload_n 0, 1) := by decide +kernel
theorem dX6_accept_22 : decode cX6_accept 22 = .ok (.getfield 32, 3) := by decide +kernel
theorem dX6_accept_25 : decode cX6_accept 25 = .ok (.getfield 165, 3) := by decide +kernel
theorem dX6_accept_28 : decode cX6_accept 28 = .ok (.ifCond .ne 11, 3) := by decide +kernel
theorem dX6_accept_31 : decode cX6_accept 31 = .ok (.new 65, 3) := by decide +kernel
theorem dX6_accept_34 : decode cX6_accept 34 = .ok (.dup, 1) := by decide +kernel
theorem dX6_accept_35 : decode cX6_accept 35 = .ok (.invokespecial 67, 3) := by decide +kernel
theorem dX6_accept_38 : decode cX6_accept 38 = .ok (.athrow, 1) := by decide +kernel
theorem dX6_accept_39 : decode cX6_accept 39 = .ok (.aload_n 2, 1) := by decide +kernel
theorem dX6_accept_40 : decode cX6_accept 40 = .ok (.aload_n 0, 1) := by decide +kernel
theorem dX6_accept_41 : decode cX6_accept 41 = .ok (.getfield 32, 3) := by decide +kernel
theorem dX6_accept_44 : decode cX6_accept 44 = .ok (.invokevirtual 191, 3) := by decide +kernel
theorem dX6_accept_47 : decode cX6_accept 47 = .ok (.aload_n 0, 1) := by decide +kernel
theorem dX6_accept_48 : decode cX6_accept 48 = .ok (.getfield 32, 3) := by decide +kernel
theorem dX6_accept_51 : decode cX6_accept 51 = .ok (.getfield 165, 3) := by decide +kernel
theorem dX6_accept_54 : decode cX6_accept 54 = .ok (.ireturn, 1) := by decide +kernel
theorem dX6_fault_0 : decode cX6_fault 0 = .ok (.aload_n 0, 1) := by decide +kernel
theorem dX6_fault_1 : decode cX6_fault 1 = .ok (.aload_n 0, 1) := by decide +kernel
theorem dX6_fault_2 : decode cX6_fault 2 = .ok (.iload_n 1, 1) := by decide +kernel
theorem dX6_fault_3 : decode cX6_fault 3 = .ok (.invokevirtual 127, 3) := by decide +kernel
theorem dX6_fault_6 : decode cX6_fault 6 = .ok (.invokevirtual 195, 3) := by decide +kernel
theorem dX6_fault_9 : decode cX6_fault 9 = .ok (.ireturn, 1) := by decide +kernel
theorem dX6_release_0 : decode cX6_release 0 = .ok (.aload_n 0, 1) := by decide +kernel
theorem dX6_release_1 : decode cX6_release 1 = .ok (.getfield 43, 3) := by decide +kernel
theorem dX6_release_4 : decode cX6_release 4 = .ok (.ifCond .ne 11, 3) := by decide +kernel
theorem dX6_release_7 : decode cX6_release 7 = .ok (.new 65, 3) := by decide +kernel
theorem dX6_release_10 : decode cX6_release 10 = .ok (.dup, 1) := by decide +kernel
theorem dX6_release_11 : decode cX6_release 11 = .ok (.invokespecial 67, 3) := by decide +kernel
theorem dX6_release_14 : decode cX6_release 14 = .ok (.athrow, 1) := by decide +kernel
theorem dX6_release_15 : decode cX6_release 15 = .ok (.aload_n 0, 1) := by decide +kernel
theorem dX6_release_16 : decode cX6_release 16 = .ok (.invokevirtual 199, 3) := by decide +kernel
theorem dX6_release_19 : decode cX6_release 19 = .ok (.aload_n 0, 1) := by decide +kernel
theorem dX6_release_20 : decode cX6_release 20 = .ok (.getfield 43, 3) := by decide +kernel
theorem dX6_release_23 : decode cX6_release 23 = .ok (.if_icmp .eq 11, 3) := by decide +kernel
theorem dX6_release_26 : decode cX6_release 26 = .ok (.new 148, 3) := by decide +kernel
theorem dX6_release_29 : decode cX6_release 29 = .ok (.dup, 1) := by decide +kernel
theorem dX6_release_30 : decode cX6_release 30 = .ok (.invokespecial 150, 3) := by decide +kernel
theorem dX6_release_33 : decode cX6_release 33 = .ok (.athrow, 1) := by decide +kernel
theorem dX6_release_34 : decode cX6_release 34 = .ok (.aload_n 0, 1) := by decide +kernel
theorem dX6_release_35 : decode cX6_release 35 = .ok (.dup, 1) := by decide +kernel
theorem dX6_release_36 : decode cX6_release 36 = .ok (.getfield 47, 3) := by decide +kernel
theorem dX6_release_39 : decode cX6_release 39 = .ok (.iconst 1, 1) := by decide +kernel
theorem dX6_release_40 : decode cX6_release 40 = .ok (.iadd, 1) := by decide +kernel
theorem dX6_release_41 : decode cX6_release 41 = .ok (.putfield 47, 3) := by decide +kernel
theorem dX6_release_44 : decode cX6_release 44 = .ok (.aload_n 0, 1) := by decide +kernel
theorem dX6_release_45 : decode cX6_release 45 = .ok (.getfield 47, 3) := by decide +kernel
theorem dX6_release_48 : decode cX6_release 48 = .ok (.ireturn, 1) := by decide +kernel
theorem dX6_ambiguous_0 : decode cX6_ambiguous 0 = .ok (.aload_n 0, 1) := by decide +kernel
theorem dX6_ambiguous_1 : decode cX6_ambiguous 1 = .ok (.iload_n 1, 1) := by decide +kernel
theorem dX6_ambiguous_2 : decode cX6_ambiguous 2 = .ok (.iload_n 2, 1) := by decide +kernel
theorem dX6_ambiguous_3 : decode cX6_ambiguous 3 = .ok (.invokevirtual 202, 3) := by decide +kernel
theorem dX6_ambiguous_6 : decode cX6_ambiguous 6 = .ok (.ireturn, 1) := by decide +kernel
theorem dX6_ambiguousAt_0 : decode cX6_ambiguousAt 0 = .ok (.aload_n 0, 1) := by decide +kernel
theorem dX6_ambiguousAt_1 : decode cX6_ambiguousAt 1 = .ok (.iload_n 1, 1) := by decide +kernel
theorem dX6_ambiguousAt_2 : decode cX6_ambiguousAt 2 = .ok (.iload_n 2, 1) := by decide +kernel
theorem dX6_ambiguousAt_3 : decode cX6_ambiguousAt 3 = .ok (.invokevirtual 202, 3) := by decide +kernel
theorem dX6_ambiguousAt_6 : decode cX6_ambiguousAt 6 = .ok (.istore 4, 2) := by decide +kernel
theorem dX6_ambiguousAt_8 : decode cX6_ambiguousAt 8 = .ok (.iload_n 3, 1) := by decide +kernel
theorem dX6_ambiguousAt_9 : decode cX6_ambiguousAt 9 = .ok (.ifCond .lt 9, 3) := by decide +kernel
theorem dX6_ambiguousAt_12 : decode cX6_ambiguousAt 12 = .ok (.iload_n 3, 1) := by decide +kernel
theorem dX6_ambiguousAt_13 : decode cX6_ambiguousAt 13 = .ok (.iload 4, 2) := by decide +kernel
theorem dX6_ambiguousAt_15 : decode cX6_ambiguousAt 15 = .ok (.if_icmp .lt 11, 3) := by decide +kernel
theorem dX6_ambiguousAt_18 : decode cX6_ambiguousAt 18 = .ok (.new 168, 3) := by decide +kernel
theorem dX6_ambiguousAt_21 : decode cX6_ambiguousAt 21 = .ok (.dup, 1) := by decide +kernel
theorem dX6_ambiguousAt_22 : decode cX6_ambiguousAt 22 = .ok (.invokespecial 170, 3) := by decide +kernel
theorem dX6_ambiguousAt_25 : decode cX6_ambiguousAt 25 = .ok (.athrow, 1) := by decide +kernel
theorem dX6_ambiguousAt_26 : decode cX6_ambiguousAt 26 = .ok (.aload_n 0, 1) := by decide +kernel
theorem dX6_ambiguousAt_27 : decode cX6_ambiguousAt 27 = .ok (.getfield 25, 3) := by decide +kernel
theorem dX6_ambiguousAt_30 : decode cX6_ambiguousAt 30 = .ok (.iload_n 3, 1) := by decide +kernel
theorem dX6_ambiguousAt_31 : decode cX6_ambiguousAt 31 = .ok (.invokevirtual 144, 3) := by decide +kernel
theorem dX6_ambiguousAt_34 : decode cX6_ambiguousAt 34 = .ok (.ireturn, 1) := by decide +kernel
theorem dX6_work_0 : decode cX6_work 0 = .ok (.aload_n 0, 1) := by decide +kernel
theorem dX6_work_1 : decode cX6_work 1 = .ok (.getfield 50, 3) := by decide +kernel
theorem dX6_work_4 : decode cX6_work 4 = .ok (.lreturn, 1) := by decide +kernel
theorem dX6_cleanShare_0 : decode cX6_cleanShare 0 = .ok (.aload_n 0, 1) := by decide +kernel
theorem dX6_cleanShare_1 : decode cX6_cleanShare 1 = .ok (.getfield 43, 3) := by decide +kernel
theorem dX6_cleanShare_4 : decode cX6_cleanShare 4 = .ok (.ifCond .ne 11, 3) := by decide +kernel
theorem dX6_cleanShare_7 : decode cX6_cleanShare 7 = .ok (.new 206, 3) := by decide +kernel
theorem dX6_cleanShare_10 : decode cX6_cleanShare 10 = .ok (.dup, 1) := by decide +kernel
theorem dX6_cleanShare_11 : decode cX6_cleanShare 11 = .ok (.invokespecial 208, 3) := by decide +kernel
theorem dX6_cleanShare_14 : decode cX6_cleanShare 14 = .ok (.athrow, 1) := by decide +kernel
theorem dX6_cleanShare_15 : decode cX6_cleanShare 15 = .ok (.aload_n 0, 1) := by decide +kernel
theorem dX6_cleanShare_16 : decode cX6_cleanShare 16 = .ok (.invokevirtual 199, 3) := by decide +kernel
theorem dX6_cleanShare_19 : decode cX6_cleanShare 19 = .ok (.i2f, 1) := by decide +kernel
theorem dX6_cleanShare_20 : decode cX6_cleanShare 20 = .ok (.aload_n 0, 1) := by decide +kernel
theorem dX6_cleanShare_21 : decode cX6_cleanShare 21 = .ok (.getfield 43, 3) := by decide +kernel
theorem dX6_cleanShare_24 : decode cX6_cleanShare 24 = .ok (.i2f, 1) := by decide +kernel
theorem dX6_cleanShare_25 : decode cX6_cleanShare 25 = .ok (.fdiv, 1) := by decide +kernel
theorem dX6_cleanShare_26 : decode cX6_cleanShare 26 = .ok (.freturn, 1) := by decide +kernel
theorem dX6_meanTrees_0 : decode cX6_meanTrees 0 = .ok (.aload_n 0, 1) := by decide +kernel
theorem dX6_meanTrees_1 : decode cX6_meanTrees 1 = .ok (.getfield 43, 3) := by decide +kernel
theorem dX6_meanTrees_4 : decode cX6_meanTrees 4 = .ok (.ifCond .ne 11, 3) := by decide +kernel
theorem dX6_meanTrees_7 : decode cX6_meanTrees 7 = .ok (.new 206, 3) := by decide +kernel
theorem dX6_meanTrees_10 : decode cX6_meanTrees 10 = .ok (.dup, 1) := by decide +kernel
theorem dX6_meanTrees_11 : decode cX6_meanTrees 11 = .ok (.invokespecial 208, 3) := by decide +kernel
theorem dX6_meanTrees_14 : decode cX6_meanTrees 14 = .ok (.athrow, 1) := by decide +kernel
theorem dX6_meanTrees_15 : decode cX6_meanTrees 15 = .ok (.iconst 0, 1) := by decide +kernel
theorem dX6_meanTrees_16 : decode cX6_meanTrees 16 = .ok (.istore_n 1, 1) := by decide +kernel
theorem dX6_meanTrees_17 : decode cX6_meanTrees 17 = .ok (.aload_n 0, 1) := by decide +kernel
theorem dX6_meanTrees_18 : decode cX6_meanTrees 18 = .ok (.getfield 18, 3) := by decide +kernel
theorem dX6_meanTrees_21 : decode cX6_meanTrees 21 = .ok (.astore_n 2, 1) := by decide +kernel
theorem dX6_meanTrees_22 : decode cX6_meanTrees 22 = .ok (.aload_n 2, 1) := by decide +kernel
theorem dX6_meanTrees_23 : decode cX6_meanTrees 23 = .ok (.arraylength, 1) := by decide +kernel
theorem dX6_meanTrees_24 : decode cX6_meanTrees 24 = .ok (.istore_n 3, 1) := by decide +kernel
theorem dX6_meanTrees_25 : decode cX6_meanTrees 25 = .ok (.iconst 0, 1) := by decide +kernel
theorem dX6_meanTrees_26 : decode cX6_meanTrees 26 = .ok (.istore 4, 2) := by decide +kernel
theorem dX6_meanTrees_28 : decode cX6_meanTrees 28 = .ok (.iload 4, 2) := by decide +kernel
theorem dX6_meanTrees_30 : decode cX6_meanTrees 30 = .ok (.iload_n 3, 1) := by decide +kernel
theorem dX6_meanTrees_31 : decode cX6_meanTrees 31 = .ok (.if_icmp .ge 31, 3) := by decide +kernel
theorem dX6_meanTrees_34 : decode cX6_meanTrees 34 = .ok (.aload_n 2, 1) := by decide +kernel
theorem dX6_meanTrees_35 : decode cX6_meanTrees 35 = .ok (.iload 4, 2) := by decide +kernel
theorem dX6_meanTrees_37 : decode cX6_meanTrees 37 = .ok (.aaload, 1) := by decide +kernel
theorem dX6_meanTrees_38 : decode cX6_meanTrees 38 = .ok (.astore 5, 2) := by decide +kernel
theorem dX6_meanTrees_40 : decode cX6_meanTrees 40 = .ok (.aload 5, 2) := by decide +kernel
theorem dX6_meanTrees_42 : decode cX6_meanTrees 42 = .ok (.ifnull 14, 3) := by decide +kernel
theorem dX6_meanTrees_45 : decode cX6_meanTrees 45 = .ok (.iload_n 1, 1) := by decide +kernel
theorem dX6_meanTrees_46 : decode cX6_meanTrees 46 = .ok (.aload 5, 2) := by decide +kernel
theorem dX6_meanTrees_48 : decode cX6_meanTrees 48 = .ok (.getfield 117, 3) := by decide +kernel
theorem dX6_meanTrees_51 : decode cX6_meanTrees 51 = .ok (.invokevirtual 134, 3) := by decide +kernel
theorem dX6_meanTrees_54 : decode cX6_meanTrees 54 = .ok (.iadd, 1) := by decide +kernel
theorem dX6_meanTrees_55 : decode cX6_meanTrees 55 = .ok (.istore_n 1, 1) := by decide +kernel
theorem dX6_meanTrees_56 : decode cX6_meanTrees 56 = .ok (.iinc 4 1, 3) := by decide +kernel
theorem dX6_meanTrees_59 : decode cX6_meanTrees 59 = .ok (.goto (-31), 3) := by decide +kernel
theorem dX6_meanTrees_62 : decode cX6_meanTrees 62 = .ok (.iload_n 1, 1) := by decide +kernel
theorem dX6_meanTrees_63 : decode cX6_meanTrees 63 = .ok (.i2d, 1) := by decide +kernel
theorem dX6_meanTrees_64 : decode cX6_meanTrees 64 = .ok (.aload_n 0, 1) := by decide +kernel
theorem dX6_meanTrees_65 : decode cX6_meanTrees 65 = .ok (.getfield 43, 3) := by decide +kernel
theorem dX6_meanTrees_68 : decode cX6_meanTrees 68 = .ok (.i2d, 1) := by decide +kernel
theorem dX6_meanTrees_69 : decode cX6_meanTrees 69 = .ok (.ddiv, 1) := by decide +kernel
theorem dX6_meanTrees_70 : decode cX6_meanTrees 70 = .ok (.dreturn, 1) := by decide +kernel
theorem dX6_isSound_0 : decode cX6_isSound 0 = .ok (.aload_n 0, 1) := by decide +kernel
theorem dX6_isSound_1 : decode cX6_isSound 1 = .ok (.getfield 18, 3) := by decide +kernel
theorem dX6_isSound_4 : decode cX6_isSound 4 = .ok (.astore_n 1, 1) := by decide +kernel
theorem dX6_isSound_5 : decode cX6_isSound 5 = .ok (.aload_n 1, 1) := by decide +kernel
theorem dX6_isSound_6 : decode cX6_isSound 6 = .ok (.arraylength, 1) := by decide +kernel
theorem dX6_isSound_7 : decode cX6_isSound 7 = .ok (.istore_n 2, 1) := by decide +kernel
theorem dX6_isSound_8 : decode cX6_isSound 8 = .ok (.iconst 0, 1) := by decide +kernel
theorem dX6_isSound_9 : decode cX6_isSound 9 = .ok (.istore_n 3, 1) := by decide +kernel
theorem dX6_isSound_10 : decode cX6_isSound 10 = .ok (.iload_n 3, 1) := by decide +kernel
theorem dX6_isSound_11 : decode cX6_isSound 11 = .ok (.iload_n 2, 1) := by decide +kernel
theorem dX6_isSound_12 : decode cX6_isSound 12 = .ok (.if_icmp .ge 33, 3) := by decide +kernel
theorem dX6_isSound_15 : decode cX6_isSound 15 = .ok (.aload_n 1, 1) := by decide +kernel
theorem dX6_isSound_16 : decode cX6_isSound 16 = .ok (.iload_n 3, 1) := by decide +kernel
theorem dX6_isSound_17 : decode cX6_isSound 17 = .ok (.aaload, 1) := by decide +kernel
theorem dX6_isSound_18 : decode cX6_isSound 18 = .ok (.astore 4, 2) := by decide +kernel
theorem dX6_isSound_20 : decode cX6_isSound 20 = .ok (.aload 4, 2) := by decide +kernel
theorem dX6_isSound_22 : decode cX6_isSound 22 = .ok (.ifnull 17, 3) := by decide +kernel
theorem dX6_isSound_25 : decode cX6_isSound 25 = .ok (.aload_n 0, 1) := by decide +kernel
theorem dX6_isSound_26 : decode cX6_isSound 26 = .ok (.aload 4, 2) := by decide +kernel
theorem dX6_isSound_28 : decode cX6_isSound 28 = .ok (.getfield 117, 3) := by decide +kernel
theorem dX6_isSound_31 : decode cX6_isSound 31 = .ok (.invokevirtual 209, 3) := by decide +kernel
theorem dX6_isSound_34 : decode cX6_isSound 34 = .ok (.ifCond .ne 5, 3) := by decide +kernel
theorem dX6_isSound_37 : decode cX6_isSound 37 = .ok (.iconst 0, 1) := by decide +kernel
theorem dX6_isSound_38 : decode cX6_isSound 38 = .ok (.ireturn, 1) := by decide +kernel
theorem dX6_isSound_39 : decode cX6_isSound 39 = .ok (.iinc 3 1, 3) := by decide +kernel
theorem dX6_isSound_42 : decode cX6_isSound 42 = .ok (.goto (-32), 3) := by decide +kernel
theorem dX6_isSound_45 : decode cX6_isSound 45 = .ok (.iconst 1, 1) := by decide +kernel
theorem dX6_isSound_46 : decode cX6_isSound 46 = .ok (.ireturn, 1) := by decide +kernel
theorem dX6_isWithin_0 : decode cX6_isWithin 0 = .ok (.iload_n 0, 1) := by decide +kernel
theorem dX6_isWithin_1 : decode cX6_isWithin 1 = .ok (.iload_n 1, 1) := by decide +kernel
theorem dX6_isWithin_2 : decode cX6_isWithin 2 = .ok (.if_icmp .lt 12, 3) := by decide +kernel
theorem dX6_isWithin_5 : decode cX6_isWithin 5 = .ok (.iload_n 0, 1) := by decide +kernel
theorem dX6_isWithin_6 : decode cX6_isWithin 6 = .ok (.iload_n 2, 1) := by decide +kernel
theorem dX6_isWithin_7 : decode cX6_isWithin 7 = .ok (.if_icmp .gt 7, 3) := by decide +kernel
theorem dX6_isWithin_10 : decode cX6_isWithin 10 = .ok (.iconst 1, 1) := by decide +kernel
theorem dX6_isWithin_11 : decode cX6_isWithin 11 = .ok (.goto 4, 3) := by decide +kernel
theorem dX6_isWithin_14 : decode cX6_isWithin 14 = .ok (.iconst 0, 1) := by decide +kernel
theorem dX6_isWithin_15 : decode cX6_isWithin 15 = .ok (.ireturn, 1) := by decide +kernel
theorem dX6_isLetter_0 : decode cX6_isLetter 0 = .ok (.iload_n 0, 1) := by decide +kernel
theorem dX6_isLetter_1 : decode cX6_isLetter 1 = .ok (.ifCond .lt 13, 3) := by decide +kernel
theorem dX6_isLetter_4 : decode cX6_isLetter 4 = .ok (.iload_n 0, 1) := by decide +kernel
theorem dX6_isLetter_5 : decode cX6_isLetter 5 = .ok (.bipush 8, 2) := by decide +kernel
theorem dX6_isLetter_7 : decode cX6_isLetter 7 = .ok (.if_icmp .ge 7, 3) := by decide +kernel
theorem dX6_isLetter_10 : decode cX6_isLetter 10 = .ok (.iconst 1, 1) := by decide +kernel
theorem dX6_isLetter_11 : decode cX6_isLetter 11 = .ok (.goto 4, 3) := by decide +kernel
theorem dX6_isLetter_14 : decode cX6_isLetter 14 = .ok (.iconst 0, 1) := by decide +kernel
theorem dX6_isLetter_15 : decode cX6_isLetter 15 = .ok (.ireturn, 1) := by decide +kernel
theorem dX6_isName_0 : decode cX6_isName 0 = .ok (.iload_n 0, 1) := by decide +kernel
theorem dX6_isName_1 : decode cX6_isName 1 = .ok (.bipush 10, 2) := by decide +kernel
theorem dX6_isName_3 : decode cX6_isName 3 = .ok (.if_icmp .lt 13, 3) := by decide +kernel
theorem dX6_isName_6 : decode cX6_isName 6 = .ok (.iload_n 0, 1) := by decide +kernel
theorem dX6_isName_7 : decode cX6_isName 7 = .ok (.bipush 15, 2) := by decide +kernel
theorem dX6_isName_9 : decode cX6_isName 9 = .ok (.if_icmp .ge 7, 3) := by decide +kernel
theorem dX6_isName_12 : decode cX6_isName 12 = .ok (.iconst 1, 1) := by decide +kernel
theorem dX6_isName_13 : decode cX6_isName 13 = .ok (.goto 4, 3) := by decide +kernel
theorem dX6_isName_16 : decode cX6_isName 16 = .ok (.iconst 0, 1) := by decide +kernel
theorem dX6_isName_17 : decode cX6_isName 17 = .ok (.ireturn, 1) := by decide +kernel
theorem dX6_isSymbol_0 : decode cX6_isSymbol 0 = .ok (.iload_n 0, 1) := by decide +kernel
theorem dX6_isSymbol_1 : decode cX6_isSymbol 1 = .ok (.invokestatic 213, 3) := by decide +kernel
theorem dX6_isSymbol_4 : decode cX6_isSymbol 4 = .ok (.ifCond .ne 10, 3) := by decide +kernel
theorem dX6_isSymbol_7 : decode cX6_isSymbol 7 = .ok (.iload_n 0, 1) := by decide +kernel
theorem dX6_isSymbol_8 : decode cX6_isSymbol 8 = .ok (.invokestatic 154, 3) := by decide +kernel
theorem dX6_isSymbol_11 : decode cX6_isSymbol 11 = .ok (.ifCond .eq 7, 3) := by decide +kernel
theorem dX6_isSymbol_14 : decode cX6_isSymbol 14 = .ok (.iconst 1, 1) := by decide +kernel
theorem dX6_isSymbol_15 : decode cX6_isSymbol 15 = .ok (.goto 4, 3) := by decide +kernel
theorem dX6_isSymbol_18 : decode cX6_isSymbol 18 = .ok (.iconst 0, 1) := by decide +kernel
theorem dX6_isSymbol_19 : decode cX6_isSymbol 19 = .ok (.ireturn, 1) := by decide +kernel
theorem dX6_isRuleForm_0 : decode cX6_isRuleForm 0 = .ok (.iload_n 0, 1) := by decide +kernel
theorem dX6_isRuleForm_1 : decode cX6_isRuleForm 1 = .ok (.invokestatic 154, 3) := by decide +kernel
theorem dX6_isRuleForm_4 : decode cX6_isRuleForm 4 = .ok (.ifCond .eq 10, 3) := by decide +kernel
theorem dX6_isRuleForm_7 : decode cX6_isRuleForm 7 = .ok (.iload_n 1, 1) := by decide +kernel
theorem dX6_isRuleForm_8 : decode cX6_isRuleForm 8 = .ok (.invokestatic 216, 3) := by decide +kernel
theorem dX6_isRuleForm_11 : decode cX6_isRuleForm 11 = .ok (.ifCond .ne 5, 3) := by decide +kernel
theorem dX6_isRuleForm_14 : decode cX6_isRuleForm 14 = .ok (.iconst 0, 1) := by decide +kernel
theorem dX6_isRuleForm_15 : decode cX6_isRuleForm 15 = .ok (.ireturn, 1) := by decide +kernel
theorem dX6_isRuleForm_16 : decode cX6_isRuleForm 16 = .ok (.iload_n 2, 1) := by decide +kernel
theorem dX6_isRuleForm_17 : decode cX6_isRuleForm 17 = .ok (.iconst (-1), 1) := by decide +kernel
theorem dX6_isRuleForm_18 : decode cX6_isRuleForm 18 = .ok (.if_icmp .ne 26, 3) := by decide +kernel
theorem dX6_isRuleForm_21 : decode cX6_isRuleForm 21 = .ok (.iload_n 3, 1) := by decide +kernel
theorem dX6_isRuleForm_22 : decode cX6_isRuleForm 22 = .ok (.iconst (-1), 1) := by decide +kernel
theorem dX6_isRuleForm_23 : decode cX6_isRuleForm 23 = .ok (.if_icmp .ne 19, 3) := by decide +kernel
theorem dX6_isRuleForm_26 : decode cX6_isRuleForm 26 = .ok (.iload_n 1, 1) := by decide +kernel
theorem dX6_isRuleForm_27 : decode cX6_isRuleForm 27 = .ok (.invokestatic 213, 3) := by decide +kernel
theorem dX6_isRuleForm_30 : decode cX6_isRuleForm 30 = .ok (.ifCond .ne 8, 3) := by decide +kernel
theorem dX6_isRuleForm_33 : decode cX6_isRuleForm 33 = .ok (.iload_n 1, 1) := by decide +kernel
theorem dX6_isRuleForm_34 : decode cX6_isRuleForm 34 = .ok (.iload_n 0, 1) := by decide +kernel
theorem dX6_isRuleForm_35 : decode cX6_isRuleForm 35 = .ok (.if_icmp .le 7, 3) := by decide +kernel
theorem dX6_isRuleForm_38 : decode cX6_isRuleForm 38 = .ok (.iconst 1, 1) := by decide +kernel
theorem dX6_isRuleForm_39 : decode cX6_isRuleForm 39 = .ok (.goto 4, 3) := by decide +kernel
theorem dX6_isRuleForm_42 : decode cX6_isRuleForm 42 = .ok (.iconst 0, 1) := by decide +kernel
theorem dX6_isRuleForm_43 : decode cX6_isRuleForm 43 = .ok (.ireturn, 1) := by decide +kernel
theorem dX6_isRuleForm_44 : decode cX6_isRuleForm 44 = .ok (.iload_n 2, 1) := by decide +kernel
theorem dX6_isRuleForm_45 : decode cX6_isRuleForm 45 = .ok (.invokestatic 216, 3) := by decide +kernel
theorem dX6_isRuleForm_48 : decode cX6_isRuleForm 48 = .ok (.ifCond .eq 19, 3) := by decide +kernel
theorem dX6_isRuleForm_51 : decode cX6_isRuleForm 51 = .ok (.iload_n 3, 1) := by decide +kernel
theorem dX6_isRuleForm_52 : decode cX6_isRuleForm 52 = .ok (.iconst (-1), 1) := by decide +kernel
theorem dX6_isRuleForm_53 : decode cX6_isRuleForm 53 = .ok (.if_icmp .eq 10, 3) := by decide +kernel
theorem dX6_isRuleForm_56 : decode cX6_isRuleForm 56 = .ok (.iload_n 3, 1) := by decide +kernel
theorem dX6_isRuleForm_57 : decode cX6_isRuleForm 57 = .ok (.invokestatic 216, 3) := by decide +kernel
theorem dX6_isRuleForm_60 : decode cX6_isRuleForm 60 = .ok (.ifCond .eq 7, 3) := by decide +kernel
theorem dX6_isRuleForm_63 : decode cX6_isRuleForm 63 = .ok (.iconst 1, 1) := by decide +kernel
theorem dX6_isRuleForm_64 : decode cX6_isRuleForm 64 = .ok (.goto 4, 3) := by decide +kernel
theorem dX6_isRuleForm_67 : decode cX6_isRuleForm 67 = .ok (.iconst 0, 1) := by decide +kernel
theorem dX6_isRuleForm_68 : decode cX6_isRuleForm 68 = .ok (.ireturn, 1) := by decide +kernel
theorem dX6_limited_0 : decode cX6_limited 0 = .ok (.iload_n 0, 1) := by decide +kernel
theorem dX6_limited_1 : decode cX6_limited 1 = .ok (.sipush 1000, 3) := by decide +kernel
theorem dX6_limited_4 : decode cX6_limited 4 = .ok (.if_icmp .le 9, 3) := by decide +kernel
theorem dX6_limited_7 : decode cX6_limited 7 = .ok (.sipush 1000, 3) := by decide +kernel
theorem dX6_limited_10 : decode cX6_limited 10 = .ok (.goto 4, 3) := by decide +kernel
theorem dX6_limited_13 : decode cX6_limited 13 = .ok (.iload_n 0, 1) := by decide +kernel
theorem dX6_limited_14 : decode cX6_limited 14 = .ok (.ireturn, 1) := by decide +kernel
theorem dX6_spot_0 : decode cX6_spot 0 = .ok (.iload_n 0, 1) := by decide +kernel
theorem dX6_spot_1 : decode cX6_spot 1 = .ok (.bipush 10, 2) := by decide +kernel
theorem dX6_spot_3 : decode cX6_spot 3 = .ok (.if_icmp .lt 24, 3) := by decide +kernel
theorem dX6_spot_6 : decode cX6_spot 6 = .ok (.iload_n 0, 1) := by decide +kernel
theorem dX6_spot_7 : decode cX6_spot 7 = .ok (.bipush 15, 2) := by decide +kernel
theorem dX6_spot_9 : decode cX6_spot 9 = .ok (.if_icmp .ge 18, 3) := by decide +kernel
theorem dX6_spot_12 : decode cX6_spot 12 = .ok (.iload_n 1, 1) := by decide +kernel
theorem dX6_spot_13 : decode cX6_spot 13 = .ok (.ifCond .lt 14, 3) := by decide +kernel
theorem dX6_spot_16 : decode cX6_spot 16 = .ok (.iload_n 2, 1) := by decide +kernel
theorem dX6_spot_17 : decode cX6_spot 17 = .ok (.iload_n 1, 1) := by decide +kernel
theorem dX6_spot_18 : decode cX6_spot 18 = .ok (.if_icmp .lt 9, 3) := by decide +kernel
theorem dX6_spot_21 : decode cX6_spot 21 = .ok (.iload_n 2, 1) := by decide +kernel
theorem dX6_spot_22 : decode cX6_spot 22 = .ok (.bipush 10, 2) := by decide +kernel
theorem dX6_spot_24 : decode cX6_spot 24 = .ok (.if_icmp .lt 5, 3) := by decide +kernel
theorem dX6_spot_27 : decode cX6_spot 27 = .ok (.iconst (-1), 1) := by decide +kernel
theorem dX6_spot_28 : decode cX6_spot 28 = .ok (.ireturn, 1) := by decide +kernel
theorem dX6_spot_29 : decode cX6_spot 29 = .ok (.iload_n 0, 1) := by decide +kernel
theorem dX6_spot_30 : decode cX6_spot 30 = .ok (.bipush 10, 2) := by decide +kernel
theorem dX6_spot_32 : decode cX6_spot 32 = .ok (.isub, 1) := by decide +kernel
theorem dX6_spot_33 : decode cX6_spot 33 = .ok (.bipush 10, 2) := by decide +kernel
theorem dX6_spot_35 : decode cX6_spot 35 = .ok (.imul, 1) := by decide +kernel
theorem dX6_spot_36 : decode cX6_spot 36 = .ok (.iload_n 1, 1) := by decide +kernel
theorem dX6_spot_37 : decode cX6_spot 37 = .ok (.iadd, 1) := by decide +kernel
theorem dX6_spot_38 : decode cX6_spot 38 = .ok (.bipush 10, 2) := by decide +kernel
theorem dX6_spot_40 : decode cX6_spot 40 = .ok (.imul, 1) := by decide +kernel
theorem dX6_spot_41 : decode cX6_spot 41 = .ok (.iload_n 2, 1) := by decide +kernel
theorem dX6_spot_42 : decode cX6_spot 42 = .ok (.iadd, 1) := by decide +kernel
theorem dX6_spot_43 : decode cX6_spot 43 = .ok (.ireturn, 1) := by decide +kernel
theorem dX6_requireLetter_0 : decode cX6_requireLetter 0 = .ok (.iload_n 0, 1) := by decide +kernel
theorem dX6_requireLetter_1 : decode cX6_requireLetter 1 = .ok (.invokestatic 213, 3) := by decide +kernel
theorem dX6_requireLetter_4 : decode cX6_requireLetter 4 = .ok (.ifCond .ne 11, 3) := by decide +kernel
theorem dX6_requireLetter_7 : decode cX6_requireLetter 7 = .ok (.new 58, 3) := by decide +kernel
theorem dX6_requireLetter_10 : decode cX6_requireLetter 10 = .ok (.dup, 1) := by decide +kernel
theorem dX6_requireLetter_11 : decode cX6_requireLetter 11 = .ok (.invokespecial 60, 3) := by decide +kernel
theorem dX6_requireLetter_14 : decode cX6_requireLetter 14 = .ok (.athrow, 1) := by decide +kernel
theorem dX6_requireLetter_15 : decode cX6_requireLetter 15 = .ok (.return_, 1) := by decide +kernel
theorem dX6_requirePlace_0 : decode cX6_requirePlace 0 = .ok (.iload_n 1, 1) := by decide +kernel
theorem dX6_requirePlace_1 : decode cX6_requirePlace 1 = .ok (.ifCond .lt 11, 3) := by decide +kernel
theorem dX6_requirePlace_4 : decode cX6_requirePlace 4 = .ok (.iload_n 1, 1) := by decide +kernel
theorem dX6_requirePlace_5 : decode cX6_requirePlace 5 = .ok (.aload_n 0, 1) := by decide +kernel
theorem dX6_requirePlace_6 : decode cX6_requirePlace 6 = .ok (.getfield 131, 3) := by decide +kernel
theorem dX6_requirePlace_9 : decode cX6_requirePlace 9 = .ok (.if_icmp .lt 11, 3) := by decide +kernel
theorem dX6_requirePlace_12 : decode cX6_requirePlace 12 = .ok (.new 219, 3) := by decide +kernel
theorem dX6_requirePlace_15 : decode cX6_requirePlace 15 = .ok (.dup, 1) := by decide +kernel
theorem dX6_requirePlace_16 : decode cX6_requirePlace 16 = .ok (.invokespecial 221, 3) := by decide +kernel
theorem dX6_requirePlace_19 : decode cX6_requirePlace 19 = .ok (.athrow, 1) := by decide +kernel
theorem dX6_requirePlace_20 : decode cX6_requirePlace 20 = .ok (.return_, 1) := by decide +kernel
theorem dX6_existingRule_0 : decode cX6_existingRule 0 = .ok (.aload_n 0, 1) := by decide +kernel
theorem dX6_existingRule_1 : decode cX6_existingRule 1 = .ok (.getfield 12, 3) := by decide +kernel
theorem dX6_existingRule_4 : decode cX6_existingRule 4 = .ok (.iload_n 1, 1) := by decide +kernel
theorem dX6_existingRule_5 : decode cX6_existingRule 5 = .ok (.invokevirtual 222, 3) := by decide +kernel
theorem dX6_existingRule_8 : decode cX6_existingRule 8 = .ok (.astore_n 2, 1) := by decide +kernel
theorem dX6_existingRule_9 : decode cX6_existingRule 9 = .ok (.aload_n 2, 1) := by decide +kernel
theorem dX6_existingRule_10 : decode cX6_existingRule 10 = .ok (.ifnonnull 11, 3) := by decide +kernel
theorem dX6_existingRule_13 : decode cX6_existingRule 13 = .ok (.new 168, 3) := by decide +kernel
theorem dX6_existingRule_16 : decode cX6_existingRule 16 = .ok (.dup, 1) := by decide +kernel
theorem dX6_existingRule_17 : decode cX6_existingRule 17 = .ok (.invokespecial 170, 3) := by decide +kernel
theorem dX6_existingRule_20 : decode cX6_existingRule 20 = .ok (.athrow, 1) := by decide +kernel
theorem dX6_existingRule_21 : decode cX6_existingRule 21 = .ok (.aload_n 2, 1) := by decide +kernel
theorem dX6_existingRule_22 : decode cX6_existingRule 22 = .ok (.areturn, 1) := by decide +kernel
theorem dX6_existingText_0 : decode cX6_existingText 0 = .ok (.iload_n 1, 1) := by decide +kernel
theorem dX6_existingText_1 : decode cX6_existingText 1 = .ok (.ifCond .lt 21, 3) := by decide +kernel
theorem dX6_existingText_4 : decode cX6_existingText 4 = .ok (.iload_n 1, 1) := by decide +kernel
theorem dX6_existingText_5 : decode cX6_existingText 5 = .ok (.aload_n 0, 1) := by decide +kernel
theorem dX6_existingText_6 : decode cX6_existingText 6 = .ok (.getfield 18, 3) := by decide +kernel
theorem dX6_existingText_9 : decode cX6_existingText 9 = .ok (.arraylength, 1) := by decide +kernel
theorem dX6_existingText_10 : decode cX6_existingText 10 = .ok (.if_icmp .ge 12, 3) := by decide +kernel
theorem dX6_existingText_13 : decode cX6_existingText 13 = .ok (.aload_n 0, 1) := by decide +kernel
theorem dX6_existingText_14 : decode cX6_existingText 14 = .ok (.getfield 18, 3) := by decide +kernel
theorem dX6_existingText_17 : decode cX6_existingText 17 = .ok (.iload_n 1, 1) := by decide +kernel
theorem dX6_existingText_18 : decode cX6_existingText 18 = .ok (.aaload, 1) := by decide +kernel
theorem dX6_existingText_19 : decode cX6_existingText 19 = .ok (.goto 4, 3) := by decide +kernel
theorem dX6_existingText_22 : decode cX6_existingText 22 = .ok (.aconst_null, 1) := by decide +kernel
theorem dX6_existingText_23 : decode cX6_existingText 23 = .ok (.astore_n 2, 1) := by decide +kernel
theorem dX6_existingText_24 : decode cX6_existingText 24 = .ok (.aload_n 2, 1) := by decide +kernel
theorem dX6_existingText_25 : decode cX6_existingText 25 = .ok (.ifnonnull 11, 3) := by decide +kernel
theorem dX6_existingText_28 : decode cX6_existingText 28 = .ok (.new 219, 3) := by decide +kernel
theorem dX6_existingText_31 : decode cX6_existingText 31 = .ok (.dup, 1) := by decide +kernel
theorem dX6_existingText_32 : decode cX6_existingText 32 = .ok (.invokespecial 221, 3) := by decide +kernel
theorem dX6_existingText_35 : decode cX6_existingText 35 = .ok (.athrow, 1) := by decide +kernel
theorem dX6_existingText_36 : decode cX6_existingText 36 = .ok (.aload_n 2, 1) := by decide +kernel
theorem dX6_existingText_37 : decode cX6_existingText 37 = .ok (.areturn, 1) := by decide +kernel
theorem dX6_layOut_0 : decode cX6_layOut 0 = .ok (.aload_n 0, 1) := by decide +kernel
theorem dX6_layOut_1 : decode cX6_layOut 1 = .ok (.getfield 32, 3) := by decide +kernel
theorem dX6_layOut_4 : decode cX6_layOut 4 = .ok (.aload_n 0, 1) := by decide +kernel
theorem dX6_layOut_5 : decode cX6_layOut 5 = .ok (.getfield 12, 3) := by decide +kernel
theorem dX6_layOut_8 : decode cX6_layOut 8 = .ok (.aload_n 0, 1) := by decide +kernel
theorem dX6_layOut_9 : decode cX6_layOut 9 = .ok (.iload_n 1, 1) := by decide +kernel
theorem dX6_layOut_10 : decode cX6_layOut 10 = .ok (.invokevirtual 127, 3) := by decide +kernel
theorem dX6_layOut_13 : decode cX6_layOut 13 = .ok (.getfield 117, 3) := by decide +kernel
theorem dX6_layOut_16 : decode cX6_layOut 16 = .ok (.invokevirtual 177, 3) := by decide +kernel
theorem dX6_layOut_19 : decode cX6_layOut 19 = .ok (.return_, 1) := by decide +kernel
theorem dX6_findTouchedBy_0 : decode cX6_findTouchedBy 0 = .ok (.iconst 0, 1) := by decide +kernel
theorem dX6_findTouchedBy_1 : decode cX6_findTouchedBy 1 = .ok (.istore_n 2, 1) := by decide +kernel
theorem dX6_findTouchedBy_2 : decode cX6_findTouchedBy 2 = .ok (.aload_n 0, 1) := by decide +kernel
theorem dX6_findTouchedBy_3 : decode cX6_findTouchedBy 3 = .ok (.getfield 18, 3) := by decide +kernel
theorem dX6_findTouchedBy_6 : decode cX6_findTouchedBy 6 = .ok (.astore_n 3, 1) := by decide +kernel
theorem dX6_findTouchedBy_7 : decode cX6_findTouchedBy 7 = .ok (.aload_n 3, 1) := by decide +kernel
theorem dX6_findTouchedBy_8 : decode cX6_findTouchedBy 8 = .ok (.arraylength, 1) := by decide +kernel
theorem dX6_findTouchedBy_9 : decode cX6_findTouchedBy 9 = .ok (.istore 4, 2) := by decide +kernel
theorem dX6_findTouchedBy_11 : decode cX6_findTouchedBy 11 = .ok (.iconst 0, 1) := by decide +kernel
theorem dX6_findTouchedBy_12 : decode cX6_findTouchedBy 12 = .ok (.istore 5, 2) := by decide +kernel
theorem dX6_findTouchedBy_14 : decode cX6_findTouchedBy 14 = .ok (.iload 5, 2) := by decide +kernel
theorem dX6_findTouchedBy_16 : decode cX6_findTouchedBy 16 = .ok (.iload 4, 2) := by decide +kernel
theorem dX6_findTouchedBy_18 : decode cX6_findTouchedBy 18 = .ok (.if_icmp .ge 57, 3) := by decide +kernel
theorem dX6_findTouchedBy_21 : decode cX6_findTouchedBy 21 = .ok (.aload_n 3, 1) := by decide +kernel
theorem dX6_findTouchedBy_22 : decode cX6_findTouchedBy 22 = .ok (.iload 5, 2) := by decide +kernel
theorem dX6_findTouchedBy_24 : decode cX6_findTouchedBy 24 = .ok (.aaload, 1) := by decide +kernel
theorem dX6_findTouchedBy_25 : decode cX6_findTouchedBy 25 = .ok (.astore 6, 2) := by decide +kernel
theorem dX6_findTouchedBy_27 : decode cX6_findTouchedBy 27 = .ok (.aload 6, 2) := by decide +kernel
theorem dX6_findTouchedBy_29 : decode cX6_findTouchedBy 29 = .ok (.ifnull 40, 3) := by decide +kernel
theorem dX6_findTouchedBy_32 : decode cX6_findTouchedBy 32 = .ok (.aload 6, 2) := by decide +kernel
theorem dX6_findTouchedBy_34 : decode cX6_findTouchedBy 34 = .ok (.getfield 117, 3) := by decide +kernel
theorem dX6_findTouchedBy_37 : decode cX6_findTouchedBy 37 = .ok (.aload_n 1, 1) := by decide +kernel
theorem dX6_findTouchedBy_38 : decode cX6_findTouchedBy 38 = .ok (.invokevirtual 225, 3) := by decide +kernel
theorem dX6_findTouchedBy_41 : decode cX6_findTouchedBy 41 = .ok (.ifCond .eq 28, 3) := by decide +kernel
theorem dX6_findTouchedBy_44 : decode cX6_findTouchedBy 44 = .ok (.aload_n 0, 1) := by decide +kernel
theorem dX6_findTouchedBy_45 : decode cX6_findTouchedBy 45 = .ok (.dup, 1) := by decide +kernel
theorem dX6_findTouchedBy_46 : decode cX6_findTouchedBy 46 = .ok (.getfield 50, 3) := by decide +kernel
theorem dX6_findTouchedBy_49 : decode cX6_findTouchedBy 49 = .ok (.aload 6, 2) := by decide +kernel
theorem dX6_findTouchedBy_51 : decode cX6_findTouchedBy 51 = .ok (.getfield 117, 3) := by decide +kernel
theorem dX6_findTouchedBy_54 : decode cX6_findTouchedBy 54 = .ok (.aload_n 0, 1) := by decide +kernel
theorem dX6_findTouchedBy_55 : decode cX6_findTouchedBy 55 = .ok (.getfield 12, 3) := by decide +kernel
theorem dX6_findTouchedBy_58 : decode cX6_findTouchedBy 58 = .ok (.invokevirtual 229, 3) := by decide +kernel
theorem dX6_findTouchedBy_61 : decode cX6_findTouchedBy 61 = .ok (.i2l, 1) := by decide +kernel
theorem dX6_findTouchedBy_62 : decode cX6_findTouchedBy 62 = .ok (.ladd, 1) := by decide +kernel
theorem dX6_findTouchedBy_63 : decode cX6_findTouchedBy 63 = .ok (.putfield 50, 3) := by decide +kernel
theorem dX6_findTouchedBy_66 : decode cX6_findTouchedBy 66 = .ok (.iinc 2 1, 3) := by decide +kernel
theorem dX6_findTouchedBy_69 : decode cX6_findTouchedBy 69 = .ok (.iinc 5 1, 3) := by decide +kernel
theorem dX6_findTouchedBy_72 : decode cX6_findTouchedBy 72 = .ok (.goto (-58), 3) := by decide +kernel
theorem dX6_findTouchedBy_75 : decode cX6_findTouchedBy 75 = .ok (.iload_n 2, 1) := by decide +kernel
theorem dX6_findTouchedBy_76 : decode cX6_findTouchedBy 76 = .ok (.ireturn, 1) := by decide +kernel
theorem dX6_faultOf_0 : decode cX6_faultOf 0 = .ok (.aload_n 1, 1) := by decide +kernel
theorem dX6_faultOf_1 : decode cX6_faultOf 1 = .ok (.getfield 117, 3) := by decide +kernel
theorem dX6_faultOf_4 : decode cX6_faultOf 4 = .ok (.invokevirtual 134, 3) := by decide +kernel
theorem dX6_faultOf_7 : decode cX6_faultOf 7 = .ok (.istore_n 2, 1) := by decide +kernel
theorem dX6_faultOf_8 : decode cX6_faultOf 8 = .ok (.iload_n 2, 1) := by decide +kernel
theorem dX6_faultOf_9 : decode cX6_faultOf 9 = .ok (.ifCond .ne 6, 3) := by decide +kernel
theorem dX6_faultOf_12 : decode cX6_faultOf 12 = .ok (.bipush 110, 2) := by decide +kernel
theorem dX6_faultOf_14 : decode cX6_faultOf 14 = .ok (.ireturn, 1) := by decide +kernel
theorem dX6_faultOf_15 : decode cX6_faultOf 15 = .ok (.iload_n 2, 1) := by decide +kernel
theorem dX6_faultOf_16 : decode cX6_faultOf 16 = .ok (.iconst 1, 1) := by decide +kernel
theorem dX6_faultOf_17 : decode cX6_faultOf 17 = .ok (.if_icmp .le 6, 3) := by decide +kernel
theorem dX6_faultOf_20 : decode cX6_faultOf 20 = .ok (.bipush 97, 2) := by decide +kernel
theorem dX6_faultOf_22 : decode cX6_faultOf 22 = .ok (.ireturn, 1) := by decide +kernel
theorem dX6_faultOf_23 : decode cX6_faultOf 23 = .ok (.aload_n 1, 1) := by decide +kernel
theorem dX6_faultOf_24 : decode cX6_faultOf 24 = .ok (.getfield 233, 3) := by decide +kernel
theorem dX6_faultOf_27 : decode cX6_faultOf 27 = .ok (.ifCond .ne 6, 3) := by decide +kernel
theorem dX6_faultOf_30 : decode cX6_faultOf 30 = .ok (.bipush 117, 2) := by decide +kernel
theorem dX6_faultOf_32 : decode cX6_faultOf 32 = .ok (.ireturn, 1) := by decide +kernel
theorem dX6_faultOf_33 : decode cX6_faultOf 33 = .ok (.aload_n 0, 1) := by decide +kernel
theorem dX6_faultOf_34 : decode cX6_faultOf 34 = .ok (.getfield 32, 3) := by decide +kernel
theorem dX6_faultOf_37 : decode cX6_faultOf 37 = .ok (.aload_n 0, 1) := by decide +kernel
theorem dX6_faultOf_38 : decode cX6_faultOf 38 = .ok (.getfield 12, 3) := by decide +kernel
theorem dX6_faultOf_41 : decode cX6_faultOf 41 = .ok (.aload_n 1, 1) := by decide +kernel
theorem dX6_faultOf_42 : decode cX6_faultOf 42 = .ok (.getfield 117, 3) := by decide +kernel
theorem dX6_faultOf_45 : decode cX6_faultOf 45 = .ok (.invokevirtual 177, 3) := by decide +kernel
theorem dX6_faultOf_48 : decode cX6_faultOf 48 = .ok (.aload_n 1, 1) := by decide +kernel
theorem dX6_faultOf_49 : decode cX6_faultOf 49 = .ok (.aload_n 0, 1) := by decide +kernel
theorem dX6_faultOf_50 : decode cX6_faultOf 50 = .ok (.getfield 32, 3) := by decide +kernel
theorem dX6_faultOf_53 : decode cX6_faultOf 53 = .ok (.invokevirtual 236, 3) := by decide +kernel
theorem dX6_faultOf_56 : decode cX6_faultOf 56 = .ok (.ifCond .eq 8, 3) := by decide +kernel
theorem dX6_faultOf_59 : decode cX6_faultOf 59 = .ok (.bipush 45, 2) := by decide +kernel
theorem dX6_faultOf_61 : decode cX6_faultOf 61 = .ok (.goto 5, 3) := by decide +kernel
theorem dX6_faultOf_64 : decode cX6_faultOf 64 = .ok (.bipush 120, 2) := by decide +kernel
theorem dX6_faultOf_66 : decode cX6_faultOf 66 = .ok (.ireturn, 1) := by decide +kernel
theorem dX6_countClean_0 : decode cX6_countClean 0 = .ok (.iconst 0, 1) := by decide +kernel
theorem dX6_countClean_1 : decode cX6_countClean 1 = .ok (.istore_n 1, 1) := by decide +kernel
theorem dX6_countClean_2 : decode cX6_countClean 2 = .ok (.aload_n 0, 1) := by decide +kernel
theorem dX6_countClean_3 : decode cX6_countClean 3 = .ok (.getfield 18, 3) := by decide +kernel
theorem dX6_countClean_6 : decode cX6_countClean 6 = .ok (.astore_n 2, 1) := by decide +kernel
theorem dX6_countClean_7 : decode cX6_countClean 7 = .ok (.aload_n 2, 1) := by decide +kernel
theorem dX6_countClean_8 : decode cX6_countClean 8 = .ok (.arraylength, 1) := by decide +kernel
theorem dX6_countClean_9 : decode cX6_countClean 9 = .ok (.istore_n 3, 1) := by decide +kernel
theorem dX6_countClean_10 : decode cX6_countClean 10 = .ok (.iconst 0, 1) := by decide +kernel
theorem dX6_countClean_11 : decode cX6_countClean 11 = .ok (.istore 4, 2) := by decide +kernel
theorem dX6_countClean_13 : decode cX6_countClean 13 = .ok (.iload 4, 2) := by decide +kernel
theorem dX6_countClean_15 : decode cX6_countClean 15 = .ok (.iload_n 3, 1) := by decide +kernel
theorem dX6_countClean_16 : decode cX6_countClean 16 = .ok (.if_icmp .ge 34, 3) := by decide +kernel
theorem dX6_countClean_19 : decode cX6_countClean 19 = .ok (.aload_n 2, 1) := by decide +kernel
theorem dX6_countClean_20 : decode cX6_countClean 20 = .ok (.iload 4, 2) := by decide +kernel
theorem dX6_countClean_22 : decode cX6_countClean 22 = .ok (.aaload, 1) := by decide +kernel
theorem dX6_countClean_23 : decode cX6_countClean 23 = .ok (.astore 5, 2) := by decide +kernel
theorem dX6_countClean_25 : decode cX6_countClean 25 = .ok (.aload 5, 2) := by decide +kernel
theorem dX6_countClean_27 : decode cX6_countClean 27 = .ok (.ifnull 17, 3) := by decide +kernel
theorem dX6_countClean_30 : decode cX6_countClean 30 = .ok (.aload_n 0, 1) := by decide +kernel
theorem dX6_countClean_31 : decode cX6_countClean 31 = .ok (.aload 5, 2) := by decide +kernel
theorem dX6_countClean_33 : decode cX6_countClean 33 = .ok (.invokevirtual 195, 3) := by decide +kernel
theorem dX6_countClean_36 : decode cX6_countClean 36 = .ok (.bipush 45, 2) := by decide +kernel
theorem dX6_countClean_38 : decode cX6_countClean 38 = .ok (.if_icmp .ne 6, 3) := by decide +kernel
theorem dX6_countClean_41 : decode cX6_countClean 41 = .ok (.iinc 1 1, 3) := by decide +kernel
theorem dX6_countClean_44 : decode cX6_countClean 44 = .ok (.iinc 4 1, 3) := by decide +kernel
theorem dX6_countClean_47 : decode cX6_countClean 47 = .ok (.goto (-34), 3) := by decide +kernel
theorem dX6_countClean_50 : decode cX6_countClean 50 = .ok (.iload_n 1, 1) := by decide +kernel
theorem dX6_countClean_51 : decode cX6_countClean 51 = .ok (.ireturn, 1) := by decide +kernel
theorem dX6_lengthOfAmbiguousRow_0 : decode cX6_lengthOfAmbiguousRow 0 = .ok (.iload_n 1, 1) := by decide +kernel
theorem dX6_lengthOfAmbiguousRow_1 : decode cX6_lengthOfAmbiguousRow 1 = .ok (.iconst 1, 1) := by decide +kernel
theorem dX6_lengthOfAmbiguousRow_2 : decode cX6_lengthOfAmbiguousRow 2 = .ok (.iconst 3, 1) := by decide +kernel
theorem dX6_lengthOfAmbiguousRow_3 : decode cX6_lengthOfAmbiguousRow 3 = .ok (.invokestatic 95, 3) := by decide +kernel
theorem dX6_lengthOfAmbiguousRow_6 : decode cX6_lengthOfAmbiguousRow 6 = .ok (.ifCond .eq 12, 3) := by decide +kernel
theorem dX6_lengthOfAmbiguousRow_9 : decode cX6_lengthOfAmbiguousRow 9 = .ok (.iload_n 2, 1) := by decide +kernel
theorem dX6_lengthOfAmbiguousRow_10 : decode cX6_lengthOfAmbiguousRow 10 = .ok (.iconst 1, 1) := by decide +kernel
theorem dX6_lengthOfAmbiguousRow_11 : decode cX6_lengthOfAmbiguousRow 11 = .ok (.iconst 4, 1) := by decide +kernel
theorem dX6_lengthOfAmbiguousRow_12 : decode cX6_lengthOfAmbiguousRow 12 = .ok (.invokestatic 95, 3) := by decide +kernel
theorem dX6_lengthOfAmbiguousRow_15 : decode cX6_lengthOfAmbiguousRow 15 = .ok (.ifCond .ne 11, 3) := by decide +kernel
theorem dX6_lengthOfAmbiguousRow_18 : decode cX6_lengthOfAmbiguousRow 18 = .ok (.new 58, 3) := by decide +kernel
theorem dX6_lengthOfAmbiguousRow_21 : decode cX6_lengthOfAmbiguousRow 21 = .ok (.dup, 1) := by decide +kernel
theorem dX6_lengthOfAmbiguousRow_22 : decode cX6_lengthOfAmbiguousRow 22 = .ok (.invokespecial 60, 3) := by decide +kernel
theorem dX6_lengthOfAmbiguousRow_25 : decode cX6_lengthOfAmbiguousRow 25 = .ok (.athrow, 1) := by decide +kernel
theorem dX6_lengthOfAmbiguousRow_26 : decode cX6_lengthOfAmbiguousRow 26 = .ok (.iconst 1, 1) := by decide +kernel
theorem dX6_lengthOfAmbiguousRow_27 : decode cX6_lengthOfAmbiguousRow 27 = .ok (.istore_n 3, 1) := by decide +kernel
theorem dX6_lengthOfAmbiguousRow_28 : decode cX6_lengthOfAmbiguousRow 28 = .ok (.iload_n 3, 1) := by decide +kernel
theorem dX6_lengthOfAmbiguousRow_29 : decode cX6_lengthOfAmbiguousRow 29 = .ok (.iload_n 2, 1) := by decide +kernel
theorem dX6_lengthOfAmbiguousRow_30 : decode cX6_lengthOfAmbiguousRow 30 = .ok (.if_icmp .gt 20, 3) := by decide +kernel
theorem dX6_lengthOfAmbiguousRow_33 : decode cX6_lengthOfAmbiguousRow 33 = .ok (.aload_n 0, 1) := by decide +kernel
theorem dX6_lengthOfAmbiguousRow_34 : decode cX6_lengthOfAmbiguousRow 34 = .ok (.iload_n 1, 1) := by decide +kernel
theorem dX6_lengthOfAmbiguousRow_35 : decode cX6_lengthOfAmbiguousRow 35 = .ok (.iload_n 3, 1) := by decide +kernel
theorem dX6_lengthOfAmbiguousRow_36 : decode cX6_lengthOfAmbiguousRow 36 = .ok (.invokevirtual 240, 3) := by decide +kernel
theorem dX6_lengthOfAmbiguousRow_39 : decode cX6_lengthOfAmbiguousRow 39 = .ok (.ifCond .eq 5, 3) := by decide +kernel
theorem dX6_lengthOfAmbiguousRow_42 : decode cX6_lengthOfAmbiguousRow 42 = .ok (.iload_n 3, 1) := by decide +kernel
theorem dX6_lengthOfAmbiguousRow_43 : decode cX6_lengthOfAmbiguousRow 43 = .ok (.ireturn, 1) := by decide +kernel
theorem dX6_lengthOfAmbiguousRow_44 : decode cX6_lengthOfAmbiguousRow 44 = .ok (.iinc 3 1, 3) := by decide +kernel
theorem dX6_lengthOfAmbiguousRow_47 : decode cX6_lengthOfAmbiguousRow 47 = .ok (.goto (-19), 3) := by decide +kernel
theorem dX6_lengthOfAmbiguousRow_50 : decode cX6_lengthOfAmbiguousRow 50 = .ok (.new 168, 3) := by decide +kernel
theorem dX6_lengthOfAmbiguousRow_53 : decode cX6_lengthOfAmbiguousRow 53 = .ok (.dup, 1) := by decide +kernel
theorem dX6_lengthOfAmbiguousRow_54 : decode cX6_lengthOfAmbiguousRow 54 = .ok (.invokespecial 170, 3) := by decide +kernel
theorem dX6_lengthOfAmbiguousRow_57 : decode cX6_lengthOfAmbiguousRow 57 = .ok (.athrow, 1) := by decide +kernel
theorem dX6_findAmbiguousRow_0 : decode cX6_findAmbiguousRow 0 = .ok (.aload_n 0, 1) := by decide +kernel
theorem dX6_findAmbiguousRow_1 : decode cX6_findAmbiguousRow 1 = .ok (.getfield 25, 3) := by decide +kernel
theorem dX6_findAmbiguousRow_4 : decode cX6_findAmbiguousRow 4 = .ok (.iload_n 2, 1) := by decide +kernel
theorem dX6_findAmbiguousRow_5 : decode cX6_findAmbiguousRow 5 = .ok (.invokevirtual 244, 3) := by decide +kernel
theorem dX6_findAmbiguousRow_8 : decode cX6_findAmbiguousRow 8 = .ok (.iconst 0, 1) := by decide +kernel
theorem dX6_findAmbiguousRow_9 : decode cX6_findAmbiguousRow 9 = .ok (.istore_n 3, 1) := by decide +kernel
theorem dX6_findAmbiguousRow_10 : decode cX6_findAmbiguousRow 10 = .ok (.iload_n 3, 1) := by decide +kernel
theorem dX6_findAmbiguousRow_11 : decode cX6_findAmbiguousRow 11 = .ok (.bipush 81, 2) := by decide +kernel
theorem dX6_findAmbiguousRow_13 : decode cX6_findAmbiguousRow 13 = .ok (.if_icmp .ge 47, 3) := by decide +kernel
theorem dX6_findAmbiguousRow_16 : decode cX6_findAmbiguousRow 16 = .ok (.aload_n 0, 1) := by decide +kernel
theorem dX6_findAmbiguousRow_17 : decode cX6_findAmbiguousRow 17 = .ok (.getfield 25, 3) := by decide +kernel
theorem dX6_findAmbiguousRow_20 : decode cX6_findAmbiguousRow 20 = .ok (.aload_n 0, 1) := by decide +kernel
theorem dX6_findAmbiguousRow_21 : decode cX6_findAmbiguousRow 21 = .ok (.getfield 12, 3) := by decide +kernel
theorem dX6_findAmbiguousRow_24 : decode cX6_findAmbiguousRow 24 = .ok (.invokevirtual 229, 3) := by decide +kernel
theorem dX6_findAmbiguousRow_27 : decode cX6_findAmbiguousRow 27 = .ok (.pop, 1) := by decide +kernel
theorem dX6_findAmbiguousRow_28 : decode cX6_findAmbiguousRow 28 = .ok (.aload_n 0, 1) := by decide +kernel
theorem dX6_findAmbiguousRow_29 : decode cX6_findAmbiguousRow 29 = .ok (.getfield 25, 3) := by decide +kernel
theorem dX6_findAmbiguousRow_32 : decode cX6_findAmbiguousRow 32 = .ok (.invokevirtual 134, 3) := by decide +kernel
theorem dX6_findAmbiguousRow_35 : decode cX6_findAmbiguousRow 35 = .ok (.iconst 1, 1) := by decide +kernel
theorem dX6_findAmbiguousRow_36 : decode cX6_findAmbiguousRow 36 = .ok (.if_icmp .le 5, 3) := by decide +kernel
theorem dX6_findAmbiguousRow_39 : decode cX6_findAmbiguousRow 39 = .ok (.iconst 1, 1) := by decide +kernel
theorem dX6_findAmbiguousRow_40 : decode cX6_findAmbiguousRow 40 = .ok (.ireturn, 1) := by decide +kernel
theorem dX6_findAmbiguousRow_41 : decode cX6_findAmbiguousRow 41 = .ok (.aload_n 0, 1) := by decide +kernel
theorem dX6_findAmbiguousRow_42 : decode cX6_findAmbiguousRow 42 = .ok (.getfield 25, 3) := by decide +kernel
theorem dX6_findAmbiguousRow_45 : decode cX6_findAmbiguousRow 45 = .ok (.iload_n 1, 1) := by decide +kernel
theorem dX6_findAmbiguousRow_46 : decode cX6_findAmbiguousRow 46 = .ok (.invokevirtual 247, 3) := by decide +kernel
theorem dX6_findAmbiguousRow_49 : decode cX6_findAmbiguousRow 49 = .ok (.ifCond .ne 5, 3) := by decide +kernel
theorem dX6_findAmbiguousRow_52 : decode cX6_findAmbiguousRow 52 = .ok (.iconst 0, 1) := by decide +kernel
theorem dX6_findAmbiguousRow_53 : decode cX6_findAmbiguousRow 53 = .ok (.ireturn, 1) := by decide +kernel
theorem dX6_findAmbiguousRow_54 : decode cX6_findAmbiguousRow 54 = .ok (.iinc 3 1, 3) := by decide +kernel
theorem dX6_findAmbiguousRow_57 : decode cX6_findAmbiguousRow 57 = .ok (.goto (-47), 3) := by decide +kernel
theorem dX6_findAmbiguousRow_60 : decode cX6_findAmbiguousRow 60 = .ok (.iconst 0, 1) := by decide +kernel
theorem dX6_findAmbiguousRow_61 : decode cX6_findAmbiguousRow 61 = .ok (.ireturn, 1) := by decide +kernel
theorem dX6_isSoundText_0 : decode cX6_isSoundText 0 = .ok (.aload_n 1, 1) := by decide +kernel
theorem dX6_isSoundText_1 : decode cX6_isSoundText 1 = .ok (.invokevirtual 134, 3) := by decide +kernel
theorem dX6_isSoundText_4 : decode cX6_isSoundText 4 = .ok (.istore_n 2, 1) := by decide +kernel
theorem dX6_isSoundText_5 : decode cX6_isSoundText 5 = .ok (.aload_n 1, 1) := by decide +kernel
theorem dX6_isSoundText_6 : decode cX6_isSoundText 6 = .ok (.getfield 131, 3) := by decide +kernel
theorem dX6_isSoundText_9 : decode cX6_isSoundText 9 = .ok (.iconst 5, 1) := by decide +kernel
theorem dX6_isSoundText_10 : decode cX6_isSoundText 10 = .ok (.if_icmp .gt 21, 3) := by decide +kernel
theorem dX6_isSoundText_13 : decode cX6_isSoundText 13 = .ok (.aload_n 0, 1) := by decide +kernel
theorem dX6_isSoundText_14 : decode cX6_isSoundText 14 = .ok (.getfield 39, 3) := by decide +kernel
theorem dX6_isSoundText_17 : decode cX6_isSoundText 17 = .ok (.aload_n 0, 1) := by decide +kernel
theorem dX6_isSoundText_18 : decode cX6_isSoundText 18 = .ok (.getfield 12, 3) := by decide +kernel
theorem dX6_isSoundText_21 : decode cX6_isSoundText 21 = .ok (.aload_n 1, 1) := by decide +kernel
theorem dX6_isSoundText_22 : decode cX6_isSoundText 22 = .ok (.invokevirtual 151, 3) := by decide +kernel
theorem dX6_isSoundText_25 : decode cX6_isSoundText 25 = .ok (.iload_n 2, 1) := by decide +kernel
theorem dX6_isSoundText_26 : decode cX6_isSoundText 26 = .ok (.if_icmp .eq 5, 3) := by decide +kernel
theorem dX6_isSoundText_29 : decode cX6_isSoundText 29 = .ok (.iconst 0, 1) := by decide +kernel
theorem dX6_isSoundText_30 : decode cX6_isSoundText 30 = .ok (.ireturn, 1) := by decide +kernel
theorem dX6_isSoundText_31 : decode cX6_isSoundText 31 = .ok (.aload_n 0, 1) := by decide +kernel
theorem dX6_isSoundText_32 : decode cX6_isSoundText 32 = .ok (.getfield 25, 3) := by decide +kernel
theorem dX6_isSoundText_35 : decode cX6_isSoundText 35 = .ok (.aload_n 1, 1) := by decide +kernel
theorem dX6_isSoundText_36 : decode cX6_isSoundText 36 = .ok (.invokevirtual 250, 3) := by decide +kernel
theorem dX6_isSoundText_39 : decode cX6_isSoundText 39 = .ok (.aload_n 0, 1) := by decide +kernel
theorem dX6_isSoundText_40 : decode cX6_isSoundText 40 = .ok (.getfield 25, 3) := by decide +kernel
theorem dX6_isSoundText_43 : decode cX6_isSoundText 43 = .ok (.aload_n 0, 1) := by decide +kernel
theorem dX6_isSoundText_44 : decode cX6_isSoundText 44 = .ok (.getfield 12, 3) := by decide +kernel
theorem dX6_isSoundText_47 : decode cX6_isSoundText 47 = .ok (.invokevirtual 229, 3) := by decide +kernel
theorem dX6_isSoundText_50 : decode cX6_isSoundText 50 = .ok (.pop, 1) := by decide +kernel
theorem dX6_isSoundText_51 : decode cX6_isSoundText 51 = .ok (.aload_n 0, 1) := by decide +kernel
theorem dX6_isSoundText_52 : decode cX6_isSoundText 52 = .ok (.getfield 25, 3) := by decide +kernel
theorem dX6_isSoundText_55 : decode cX6_isSoundText 55 = .ok (.aload_n 1, 1) := by decide +kernel
theorem dX6_isSoundText_56 : decode cX6_isSoundText 56 = .ok (.invokevirtual 254, 3) := by decide +kernel
theorem dX6_isSoundText_59 : decode cX6_isSoundText 59 = .ok (.ifCond .ne 5, 3) := by decide +kernel
theorem dX6_isSoundText_62 : decode cX6_isSoundText 62 = .ok (.iconst 0, 1) := by decide +kernel
theorem dX6_isSoundText_63 : decode cX6_isSoundText 63 = .ok (.ireturn, 1) := by decide +kernel
theorem dX6_isSoundText_64 : decode cX6_isSoundText 64 = .ok (.aload_n 0, 1) := by decide +kernel
theorem dX6_isSoundText_65 : decode cX6_isSoundText 65 = .ok (.getfield 32, 3) := by decide +kernel
theorem dX6_isSoundText_68 : decode cX6_isSoundText 68 = .ok (.aload_n 0, 1) := by decide +kernel
theorem dX6_isSoundText_69 : decode cX6_isSoundText 69 = .ok (.getfield 12, 3) := by decide +kernel
theorem dX6_isSoundText_72 : decode cX6_isSoundText 72 = .ok (.aload_n 1, 1) := by decide +kernel
theorem dX6_isSoundText_73 : decode cX6_isSoundText 73 = .ok (.invokevirtual 177, 3) := by decide +kernel
theorem dX6_isSoundText_76 : decode cX6_isSoundText 76 = .ok (.iload_n 2, 1) := by decide +kernel
theorem dX6_isSoundText_77 : decode cX6_isSoundText 77 = .ok (.ifCond .eq 17, 3) := by decide +kernel
theorem dX6_isSoundText_80 : decode cX6_isSoundText 80 = .ok (.aload_n 0, 1) := by decide +kernel
theorem dX6_isSoundText_81 : decode cX6_isSoundText 81 = .ok (.getfield 32, 3) := by decide +kernel
theorem dX6_isSoundText_84 : decode cX6_isSoundText 84 = .ok (.getfield 257, 3) := by decide +kernel
theorem dX6_isSoundText_87 : decode cX6_isSoundText 87 = .ok (.aload_n 1, 1) := by decide +kernel
theorem dX6_isSoundText_88 : decode cX6_isSoundText 88 = .ok (.getfield 131, 3) := by decide +kernel
theorem dX6_isSoundText_91 : decode cX6_isSoundText 91 = .ok (.if_icmp .ne 7, 3) := by decide +kernel
theorem dX6_isSoundText_94 : decode cX6_isSoundText 94 = .ok (.iconst 1, 1) := by decide +kernel
theorem dX6_isSoundText_95 : decode cX6_isSoundText 95 = .ok (.goto 4, 3) := by decide +kernel
theorem dX6_isSoundText_98 : decode cX6_isSoundText 98 = .ok (.iconst 0, 1) := by decide +kernel
theorem dX6_isSoundText_99 : decode cX6_isSoundText 99 = .ok (.ireturn, 1) := by decide +kernel
theorem dJx00060_init_a7421_0 : decode cJx00060_init_a7421 0 = .ok (.aload_n 0, 1) := by decide +kernel
theorem dJx00060_init_a7421_1 : decode cJx00060_init_a7421 1 = .ok (.aload_n 1, 1) := by decide +kernel
theorem dJx00060_init_a7421_2 : decode cJx00060_init_a7421 2 = .ok (.invokespecial 7, 3) := by decide +kernel
theorem dJx00060_init_a7421_5 : decode cJx00060_init_a7421 5 = .ok (.return_, 1) := by decide +kernel
theorem dJ9_max_7cf53_0 : decode cJ9_max_7cf53 0 = .ok (.iload_n 0, 1) := by decide +kernel
theorem dJ9_max_7cf53_1 : decode cJ9_max_7cf53 1 = .ok (.iload_n 1, 1) := by decide +kernel
theorem dJ9_max_7cf53_2 : decode cJ9_max_7cf53 2 = .ok (.if_icmp .lt 7, 3) := by decide +kernel
theorem dJ9_max_7cf53_5 : decode cJ9_max_7cf53 5 = .ok (.iload_n 0, 1) := by decide +kernel
theorem dJ9_max_7cf53_6 : decode cJ9_max_7cf53 6 = .ok (.goto 4, 3) := by decide +kernel
theorem dJ9_max_7cf53_9 : decode cJ9_max_7cf53 9 = .ok (.iload_n 1, 1) := by decide +kernel
theorem dJ9_max_7cf53_10 : decode cJ9_max_7cf53 10 = .ok (.ireturn, 1) := by decide +kernel
theorem dJ9_min_7cf53_0 : decode cJ9_min_7cf53 0 = .ok (.iload_n 0, 1) := by decide +kernel
theorem dJ9_min_7cf53_1 : decode cJ9_min_7cf53 1 = .ok (.iload_n 1, 1) := by decide +kernel
theorem dJ9_min_7cf53_2 : decode cJ9_min_7cf53 2 = .ok (.if_icmp .gt 7, 3) := by decide +kernel
theorem dJ9_min_7cf53_5 : decode cJ9_min_7cf53 5 = .ok (.iload_n 0, 1) := by decide +kernel
theorem dJ9_min_7cf53_6 : decode cJ9_min_7cf53 6 = .ok (.goto 4, 3) := by decide +kernel
theorem dJ9_min_7cf53_9 : decode cJ9_min_7cf53 9 = .ok (.iload_n 1, 1) := by decide +kernel
theorem dJ9_min_7cf53_10 : decode cJ9_min_7cf53 10 = .ok (.ireturn, 1) := by decide +kernel
theorem dJ7_fill_53178_0 : decode cJ7_fill_53178 0 = .ok (.iconst 0, 1) := by decide +kernel
theorem dJ7_fill_53178_1 : decode cJ7_fill_53178 1 = .ok (.istore_n 2, 1) := by decide +kernel
theorem dJ7_fill_53178_2 : decode cJ7_fill_53178 2 = .ok (.aload_n 0, 1) := by decide +kernel
theorem dJ7_fill_53178_3 : decode cJ7_fill_53178 3 = .ok (.arraylength, 1) := by decide +kernel
theorem dJ7_fill_53178_4 : decode cJ7_fill_53178 4 = .ok (.istore_n 3, 1) := by decide +kernel
theorem dJ7_fill_53178_5 : decode cJ7_fill_53178 5 = .ok (.iload_n 2, 1) := by decide +kernel
theorem dJ7_fill_53178_6 : decode cJ7_fill_53178 6 = .ok (.iload_n 3, 1) := by decide +kernel
theorem dJ7_fill_53178_7 : decode cJ7_fill_53178 7 = .ok (.if_icmp .ge 13, 3) := by decide +kernel
theorem dJ7_fill_53178_10 : decode cJ7_fill_53178 10 = .ok (.aload_n 0, 1) := by decide +kernel
theorem dJ7_fill_53178_11 : decode cJ7_fill_53178 11 = .ok (.iload_n 2, 1) := by decide +kernel
theorem dJ7_fill_53178_12 : decode cJ7_fill_53178 12 = .ok (.iload_n 1, 1) := by decide +kernel
theorem dJ7_fill_53178_13 : decode cJ7_fill_53178 13 = .ok (.iastore, 1) := by decide +kernel
theorem dJ7_fill_53178_14 : decode cJ7_fill_53178 14 = .ok (.iinc 2 1, 3) := by decide +kernel
theorem dJ7_fill_53178_17 : decode cJ7_fill_53178 17 = .ok (.goto (-12), 3) := by decide +kernel
theorem dJ7_fill_53178_20 : decode cJ7_fill_53178 20 = .ok (.return_, 1) := by decide +kernel
end
section
theorem dX7_init_0 : decode cX7_init 0 = .ok (.aload_n 0, 1) := by decide +kernel
theorem dX7_init_1 : decode cX7_init 1 = .ok (.invokespecial 1, 3) := by decide +kernel
theorem dX7_init_4 : decode cX7_init 4 = .ok (.aload_n 0, 1) := by decide +kernel
theorem dX7_init_5 : decode cX7_init 5 = .ok (.bipush 12, 2) := by decide +kernel
theorem dX7_init_7 : decode cX7_init 7 = .ok (.newarray .int, 2) := by decide +kernel
theorem dX7_init_9 : decode cX7_init 9 = .ok (.putfield 7, 3) := by decide +kernel
theorem dX7_init_12 : decode cX7_init 12 = .ok (.aload_n 0, 1) := by decide +kernel
theorem dX7_init_13 : decode cX7_init 13 = .ok (.bipush 36, 2) := by decide +kernel
theorem dX7_init_15 : decode cX7_init 15 = .ok (.newarray .int, 2) := by decide +kernel
theorem dX7_init_17 : decode cX7_init 17 = .ok (.putfield 13, 3) := by decide +kernel
theorem dX7_init_20 : decode cX7_init 20 = .ok (.aload_n 0, 1) := by decide +kernel
theorem dX7_init_21 : decode cX7_init 21 = .ok (.bipush 12, 2) := by decide +kernel
theorem dX7_init_23 : decode cX7_init 23 = .ok (.newarray .int, 2) := by decide +kernel
theorem dX7_init_25 : decode cX7_init 25 = .ok (.putfield 16, 3) := by decide +kernel
theorem dX7_init_28 : decode cX7_init 28 = .ok (.aload_n 0, 1) := by decide +kernel
theorem dX7_init_29 : decode cX7_init 29 = .ok (.bipush 12, 2) := by decide +kernel
theorem dX7_init_31 : decode cX7_init 31 = .ok (.newarray .int, 2) := by decide +kernel
theorem dX7_init_33 : decode cX7_init 33 = .ok (.putfield 19, 3) := by decide +kernel
theorem dX7_init_36 : decode cX7_init 36 = .ok (.aload_n 0, 1) := by decide +kernel
theorem dX7_init_37 : decode cX7_init 37 = .ok (.bipush 12, 2) := by decide +kernel
theorem dX7_init_39 : decode cX7_init 39 = .ok (.newarray .int, 2) := by decide +kernel
theorem dX7_init_41 : decode cX7_init 41 = .ok (.putfield 22, 3) := by decide +kernel
theorem dX7_init_44 : decode cX7_init 44 = .ok (.aload_n 0, 1) := by decide +kernel
theorem dX7_init_45 : decode cX7_init 45 = .ok (.bipush 12, 2) := by decide +kernel
theorem dX7_init_47 : decode cX7_init 47 = .ok (.newarray .int, 2) := by decide +kernel
theorem dX7_init_49 : decode cX7_init 49 = .ok (.putfield 25, 3) := by decide +kernel
theorem dX7_init_52 : decode cX7_init 52 = .ok (.aload_n 0, 1) := by decide +kernel
theorem dX7_init_53 : decode cX7_init 53 = .ok (.bipush 12, 2) := by decide +kernel
theorem dX7_init_55 : decode cX7_init 55 = .ok (.newarray .boolean, 2) := by decide +kernel
theorem dX7_init_57 : decode cX7_init 57 = .ok (.putfield 28, 3) := by decide +kernel
theorem dX7_init_60 : decode cX7_init 60 = .ok (.aload_n 0, 1) := by decide +kernel
theorem dX7_init_61 : decode cX7_init 61 = .ok (.bipush 60, 2) := by decide +kernel
theorem dX7_init_63 : decode cX7_init 63 = .ok (.newarray .int, 2) := by decide +kernel
theorem dX7_init_65 : decode cX7_init 65 = .ok (.putfield 32, 3) := by decide +kernel
theorem dX7_init_68 : decode cX7_init 68 = .ok (.aload_n 0, 1) := by decide +kernel
theorem dX7_init_69 : decode cX7_init 69 = .ok (.bipush 6, 2) := by decide +kernel
theorem dX7_init_71 : decode cX7_init 71 = .ok (.newarray .int, 2) := by decide +kernel
theorem dX7_init_73 : decode cX7_init 73 = .ok (.putfield 35, 3) := by decide +kernel
theorem dX7_init_76 : decode cX7_init 76 = .ok (.aload_n 0, 1) := by decide +kernel
theorem dX7_init_77 : decode cX7_init 77 = .ok (.sipush 600, 3) := by decide +kernel
theorem dX7_init_80 : decode cX7_init 80 = .ok (.newarray .int, 2) := by decide +kernel
theorem dX7_init_82 : decode cX7_init 82 = .ok (.putfield 38, 3) := by decide +kernel
theorem dX7_init_85 : decode cX7_init 85 = .ok (.aload_n 0, 1) := by decide +kernel
theorem dX7_init_86 : decode cX7_init 86 = .ok (.bipush 6, 2) := by decide +kernel
theorem dX7_init_88 : decode cX7_init 88 = .ok (.newarray .int, 2) := by decide +kernel
theorem dX7_init_90 : decode cX7_init 90 = .ok (.putfield 41, 3) := by decide +kernel
theorem dX7_init_93 : decode cX7_init 93 = .ok (.aload_n 0, 1) := by decide +kernel
theorem dX7_init_94 : decode cX7_init 94 = .ok (.bipush 10, 2) := by decide +kernel
theorem dX7_init_96 : decode cX7_init 96 = .ok (.newarray .int, 2) := by decide +kernel
theorem dX7_init_98 : decode cX7_init 98 = .ok (.putfield 44, 3) := by decide +kernel
theorem dX7_init_101 : decode cX7_init 101 = .ok (.aload_n 0, 1) := by decide +kernel
theorem dX7_init_102 : decode cX7_init 102 = .ok (.sipush 500, 3) := by decide +kernel
theorem dX7_init_105 : decode cX7_init 105 = .ok (.newarray .int, 2) := by decide +kernel
theorem dX7_init_107 : decode cX7_init 107 = .ok (.putfield 47, 3) := by decide +kernel
theorem dX7_init_110 : decode cX7_init 110 = .ok (.aload_n 0, 1) := by decide +kernel
theorem dX7_init_111 : decode cX7_init 111 = .ok (.bipush 100, 2) := by decide +kernel
theorem dX7_init_113 : decode cX7_init 113 = .ok (.newarray .int, 2) := by decide +kernel
theorem dX7_init_115 : decode cX7_init 115 = .ok (.putfield 50, 3) := by decide +kernel
theorem dX7_init_118 : decode cX7_init 118 = .ok (.aload_n 0, 1) := by decide +kernel
theorem dX7_init_119 : decode cX7_init 119 = .ok (.bipush 10, 2) := by decide +kernel
theorem dX7_init_121 : decode cX7_init 121 = .ok (.newarray .int, 2) := by decide +kernel
theorem dX7_init_123 : decode cX7_init 123 = .ok (.putfield 53, 3) := by decide +kernel
theorem dX7_init_126 : decode cX7_init 126 = .ok (.aload_n 0, 1) := by decide +kernel
theorem dX7_init_127 : decode cX7_init 127 = .ok (.bipush 64, 2) := by decide +kernel
theorem dX7_init_129 : decode cX7_init 129 = .ok (.newarray .char, 2) := by decide +kernel
theorem dX7_init_131 : decode cX7_init 131 = .ok (.putfield 56, 3) := by decide +kernel
theorem dX7_init_134 : decode cX7_init 134 = .ok (.return_, 1) := by decide +kernel
theorem dX7_thrown_0 : decode cX7_thrown 0 = .ok (.aload_n 0, 1) := by decide +kernel
theorem dX7_thrown_1 : decode cX7_thrown 1 = .ok (.getfield 60, 3) := by decide +kernel
theorem dX7_thrown_4 : decode cX7_thrown 4 = .ok (.ireturn, 1) := by decide +kernel
theorem dX7_in_0 : decode cX7_in 0 = .ok (.lload_n 0, 1) := by decide +kernel
theorem dX7_in_1 : decode cX7_in 1 = .ok (.lload_n 2, 1) := by decide +kernel
theorem dX7_in_2 : decode cX7_in 2 = .ok (.lcmp, 1) := by decide +kernel
theorem dX7_in_3 : decode cX7_in 3 = .ok (.ifCond .lt 14, 3) := by decide +kernel
theorem dX7_in_6 : decode cX7_in 6 = .ok (.lload_n 0, 1) := by decide +kernel
theorem dX7_in_7 : decode cX7_in 7 = .ok (.lload 4, 2) := by decide +kernel
theorem dX7_in_9 : decode cX7_in 9 = .ok (.lcmp, 1) := by decide +kernel
theorem dX7_in_10 : decode cX7_in 10 = .ok (.ifCond .gt 7, 3) := by decide +kernel
theorem dX7_in_13 : decode cX7_in 13 = .ok (.iconst 1, 1) := by decide +kernel
theorem dX7_in_14 : decode cX7_in 14 = .ok (.goto 4, 3) := by decide +kernel
theorem dX7_in_17 : decode cX7_in 17 = .ok (.iconst 0, 1) := by decide +kernel
theorem dX7_in_18 : decode cX7_in 18 = .ok (.ireturn, 1) := by decide +kernel
theorem dX7_isName_0 : decode cX7_isName 0 = .ok (.iload_n 0, 1) := by decide +kernel
theorem dX7_isName_1 : decode cX7_isName 1 = .ok (.i2l, 1) := by decide +kernel
theorem dX7_isName_2 : decode cX7_isName 2 = .ok (.ldc2_w 64, 3) := by decide +kernel
theorem dX7_isName_5 : decode cX7_isName 5 = .ok (.ldc2_w 66, 3) := by decide +kernel
theorem dX7_isName_8 : decode cX7_isName 8 = .ok (.invokestatic 68, 3) := by decide +kernel
theorem dX7_isName_11 : decode cX7_isName 11 = .ok (.ireturn, 1) := by decide +kernel
theorem dX7_isLetter_0 : decode cX7_isLetter 0 = .ok (.iload_n 0, 1) := by decide +kernel
theorem dX7_isLetter_1 : decode cX7_isLetter 1 = .ok (.i2l, 1) := by decide +kernel
theorem dX7_isLetter_2 : decode cX7_isLetter 2 = .ok (.lconst 0, 1) := by decide +kernel
theorem dX7_isLetter_3 : decode cX7_isLetter 3 = .ok (.ldc2_w 72, 3) := by decide +kernel
theorem dX7_isLetter_6 : decode cX7_isLetter 6 = .ok (.invokestatic 68, 3) := by decide +kernel
theorem dX7_isLetter_9 : decode cX7_isLetter 9 = .ok (.ireturn, 1) := by decide +kernel
theorem dX7_isSymbol_0 : decode cX7_isSymbol 0 = .ok (.iload_n 0, 1) := by decide +kernel
theorem dX7_isSymbol_1 : decode cX7_isSymbol 1 = .ok (.invokestatic 74, 3) := by decide +kernel
theorem dX7_isSymbol_4 : decode cX7_isSymbol 4 = .ok (.ifCond .ne 10, 3) := by decide +kernel
theorem dX7_isSymbol_7 : decode cX7_isSymbol 7 = .ok (.iload_n 0, 1) := by decide +kernel
theorem dX7_isSymbol_8 : decode cX7_isSymbol 8 = .ok (.invokestatic 78, 3) := by decide +kernel
theorem dX7_isSymbol_11 : decode cX7_isSymbol 11 = .ok (.ifCond .eq 7, 3) := by decide +kernel
theorem dX7_isSymbol_14 : decode cX7_isSymbol 14 = .ok (.iconst 1, 1) := by decide +kernel
theorem dX7_isSymbol_15 : decode cX7_isSymbol 15 = .ok (.goto 4, 3) := by decide +kernel
theorem dX7_isSymbol_18 : decode cX7_isSymbol 18 = .ok (.iconst 0, 1) := by decide +kernel
theorem dX7_isSymbol_19 : decode cX7_isSymbol 19 = .ok (.ireturn, 1) := by decide +kernel
theorem dX7_held_0 : decode cX7_held 0 = .ok (.iload_n 0, 1) := by decide +kernel
theorem dX7_held_1 : decode cX7_held 1 = .ok (.sipush 1000, 3) := by decide +kernel
theorem dX7_held_4 : decode cX7_held 4 = .ok (.if_icmp .le 9, 3) := by decide +kernel
theorem dX7_held_7 : decode cX7_held 7 = .ok (.sipush 1000, 3) := by decide +kernel
theorem dX7_held_10 : decode cX7_held 10 = .ok (.goto 4, 3) := by decide +kernel
theorem dX7_held_13 : decode cX7_held 13 = .ok (.iload_n 0, 1) := by decide +kernel
theorem dX7_held_14 : decode cX7_held 14 = .ok (.ireturn, 1) := by decide +kernel
theorem dX7_part_0 : decode cX7_part 0 = .ok (.iload_n 1, 1) := by decide +kernel
theorem dX7_part_1 : decode cX7_part 1 = .ok (.invokestatic 78, 3) := by decide +kernel
theorem dX7_part_4 : decode cX7_part 4 = .ok (.ifCond .eq 24, 3) := by decide +kernel
theorem dX7_part_7 : decode cX7_part 7 = .ok (.iload_n 2, 1) := by decide +kernel
theorem dX7_part_8 : decode cX7_part 8 = .ok (.iload_n 3, 1) := by decide +kernel
theorem dX7_part_9 : decode cX7_part 9 = .ok (.if_icmp .ne 17, 3) := by decide +kernel
theorem dX7_part_12 : decode cX7_part 12 = .ok (.aload_n 0, 1) := by decide +kernel
theorem dX7_part_13 : decode cX7_part 13 = .ok (.getfield 44, 3) := by decide +kernel
theorem dX7_part_16 : decode cX7_part 16 = .ok (.iload_n 2, 1) := by decide +kernel
theorem dX7_part_17 : decode cX7_part 17 = .ok (.iaload, 1) := by decide +kernel
theorem dX7_part_18 : decode cX7_part 18 = .ok (.iload_n 1, 1) := by decide +kernel
theorem dX7_part_19 : decode cX7_part 19 = .ok (.if_icmp .ne 7, 3) := by decide +kernel
theorem dX7_part_22 : decode cX7_part 22 = .ok (.iconst 1, 1) := by decide +kernel
theorem dX7_part_23 : decode cX7_part 23 = .ok (.goto 4, 3) := by decide +kernel
theorem dX7_part_26 : decode cX7_part 26 = .ok (.iconst 0, 1) := by decide +kernel
theorem dX7_part_27 : decode cX7_part 27 = .ok (.ireturn, 1) := by decide +kernel
theorem dX7_part_28 : decode cX7_part 28 = .ok (.aload_n 0, 1) := by decide +kernel
theorem dX7_part_29 : decode cX7_part 29 = .ok (.getfield 47, 3) := by decide +kernel
theorem dX7_part_32 : decode cX7_part 32 = .ok (.bipush 100, 2) := by decide +kernel
theorem dX7_part_34 : decode cX7_part 34 = .ok (.iload_n 1, 1) := by decide +kernel
theorem dX7_part_35 : decode cX7_part 35 = .ok (.bipush 10, 2) := by decide +kernel
theorem dX7_part_37 : decode cX7_part 37 = .ok (.isub, 1) := by decide +kernel
theorem dX7_part_38 : decode cX7_part 38 = .ok (.imul, 1) := by decide +kernel
theorem dX7_part_39 : decode cX7_part 39 = .ok (.bipush 10, 2) := by decide +kernel
theorem dX7_part_41 : decode cX7_part 41 = .ok (.iload_n 2, 1) := by decide +kernel
theorem dX7_part_42 : decode cX7_part 42 = .ok (.imul, 1) := by decide +kernel
theorem dX7_part_43 : decode cX7_part 43 = .ok (.iadd, 1) := by decide +kernel
theorem dX7_part_44 : decode cX7_part 44 = .ok (.iload_n 3, 1) := by decide +kernel
theorem dX7_part_45 : decode cX7_part 45 = .ok (.iadd, 1) := by decide +kernel
theorem dX7_part_46 : decode cX7_part 46 = .ok (.iaload, 1) := by decide +kernel
theorem dX7_part_47 : decode cX7_part 47 = .ok (.ireturn, 1) := by decide +kernel
theorem dX7_twoParts_0 : decode cX7_twoParts 0 = .ok (.iconst 0, 1) := by decide +kernel
theorem dX7_twoParts_1 : decode cX7_twoParts 1 = .ok (.istore 5, 2) := by decide +kernel
theorem dX7_twoParts_3 : decode cX7_twoParts 3 = .ok (.iload_n 3, 1) := by decide +kernel
theorem dX7_twoParts_4 : decode cX7_twoParts 4 = .ok (.istore 6, 2) := by decide +kernel
theorem dX7_twoParts_6 : decode cX7_twoParts 6 = .ok (.iload 6, 2) := by decide +kernel
theorem dX7_twoParts_8 : decode cX7_twoParts 8 = .ok (.iload 4, 2) := by decide +kernel
theorem dX7_twoParts_10 : decode cX7_twoParts 10 = .ok (.if_icmp .ge 40, 3) := by decide +kernel
theorem dX7_twoParts_13 : decode cX7_twoParts 13 = .ok (.iload 5, 2) := by decide +kernel
theorem dX7_twoParts_15 : decode cX7_twoParts 15 = .ok (.aload_n 0, 1) := by decide +kernel
theorem dX7_twoParts_16 : decode cX7_twoParts 16 = .ok (.iload_n 1, 1) := by decide +kernel
theorem dX7_twoParts_17 : decode cX7_twoParts 17 = .ok (.iload_n 3, 1) := by decide +kernel
theorem dX7_twoParts_18 : decode cX7_twoParts 18 = .ok (.iload 6, 2) := by decide +kernel
theorem dX7_twoParts_20 : decode cX7_twoParts 20 = .ok (.invokevirtual 81, 3) := by decide +kernel
theorem dX7_twoParts_23 : decode cX7_twoParts 23 = .ok (.aload_n 0, 1) := by decide +kernel
theorem dX7_twoParts_24 : decode cX7_twoParts 24 = .ok (.iload_n 2, 1) := by decide +kernel
theorem dX7_twoParts_25 : decode cX7_twoParts 25 = .ok (.iload 6, 2) := by decide +kernel
theorem dX7_twoParts_27 : decode cX7_twoParts 27 = .ok (.iconst 1, 1) := by decide +kernel
theorem dX7_twoParts_28 : decode cX7_twoParts 28 = .ok (.iadd, 1) := by decide +kernel
theorem dX7_twoParts_29 : decode cX7_twoParts 29 = .ok (.iload 4, 2) := by decide +kernel
theorem dX7_twoParts_31 : decode cX7_twoParts 31 = .ok (.invokevirtual 81, 3) := by decide +kernel
theorem dX7_twoParts_34 : decode cX7_twoParts 34 = .ok (.imul, 1) := by decide +kernel
theorem dX7_twoParts_35 : decode cX7_twoParts 35 = .ok (.invokestatic 85, 3) := by decide +kernel
theorem dX7_twoParts_38 : decode cX7_twoParts 38 = .ok (.iadd, 1) := by decide +kernel
theorem dX7_twoParts_39 : decode cX7_twoParts 39 = .ok (.invokestatic 85, 3) := by decide +kernel
theorem dX7_twoParts_42 : decode cX7_twoParts 42 = .ok (.istore 5, 2) := by decide +kernel
theorem dX7_twoParts_44 : decode cX7_twoParts 44 = .ok (.iinc 6 1, 3) := by decide +kernel
theorem dX7_twoParts_47 : decode cX7_twoParts 47 = .ok (.goto (-41), 3) := by decide +kernel
theorem dX7_twoParts_50 : decode cX7_twoParts 50 = .ok (.iload 5, 2) := by decide +kernel
theorem dX7_twoParts_52 : decode cX7_twoParts 52 = .ok (.ireturn, 1) := by decide +kernel
theorem dX7_ways_0 : decode cX7_ways 0 = .ok (.iconst 3, 1) := by decide +kernel
theorem dX7_ways_1 : decode cX7_ways 1 = .ok (.iload_n 1, 1) := by decide +kernel
theorem dX7_ways_2 : decode cX7_ways 2 = .ok (.imul, 1) := by decide +kernel
theorem dX7_ways_3 : decode cX7_ways 3 = .ok (.istore 4, 2) := by decide +kernel
theorem dX7_ways_5 : decode cX7_ways 5 = .ok (.aload_n 0, 1) := by decide +kernel
theorem dX7_ways_6 : decode cX7_ways 6 = .ok (.getfield 16, 3) := by decide +kernel
theorem dX7_ways_9 : decode cX7_ways 9 = .ok (.iload_n 1, 1) := by decide +kernel
theorem dX7_ways_10 : decode cX7_ways 10 = .ok (.iaload, 1) := by decide +kernel
theorem dX7_ways_11 : decode cX7_ways 11 = .ok (.iconst 1, 1) := by decide +kernel
theorem dX7_ways_12 : decode cX7_ways 12 = .ok (.if_icmp .ne 17, 3) := by decide +kernel
theorem dX7_ways_15 : decode cX7_ways 15 = .ok (.aload_n 0, 1) := by decide +kernel
theorem dX7_ways_16 : decode cX7_ways 16 = .ok (.aload_n 0, 1) := by decide +kernel
theorem dX7_ways_17 : decode cX7_ways 17 = .ok (.getfield 13, 3) := by decide +kernel
theorem dX7_ways_20 : decode cX7_ways 20 = .ok (.iload 4, 2) := by decide +kernel
theorem dX7_ways_22 : decode cX7_ways 22 = .ok (.iaload, 1) := by decide +kernel
theorem dX7_ways_23 : decode cX7_ways 23 = .ok (.iload_n 2, 1) := by decide +kernel
theorem dX7_ways_24 : decode cX7_ways 24 = .ok (.iload_n 3, 1) := by decide +kernel
theorem dX7_ways_25 : decode cX7_ways 25 = .ok (.invokevirtual 81, 3) := by decide +kernel
theorem dX7_ways_28 : decode cX7_ways 28 = .ok (.ireturn, 1) := by decide +kernel
theorem dX7_ways_29 : decode cX7_ways 29 = .ok (.aload_n 0, 1) := by decide +kernel
theorem dX7_ways_30 : decode cX7_ways 30 = .ok (.getfield 16, 3) := by decide +kernel
theorem dX7_ways_33 : decode cX7_ways 33 = .ok (.iload_n 1, 1) := by decide +kernel
theorem dX7_ways_34 : decode cX7_ways 34 = .ok (.iaload, 1) := by decide +kernel
theorem dX7_ways_35 : decode cX7_ways 35 = .ok (.iconst 2, 1) := by decide +kernel
theorem dX7_ways_36 : decode cX7_ways 36 = .ok (.if_icmp .ne 26, 3) := by decide +kernel
theorem dX7_ways_39 : decode cX7_ways 39 = .ok (.aload_n 0, 1) := by decide +kernel
theorem dX7_ways_40 : decode cX7_ways 40 = .ok (.aload_n 0, 1) := by decide +kernel
theorem dX7_ways_41 : decode cX7_ways 41 = .ok (.getfield 13, 3) := by decide +kernel
theorem dX7_ways_44 : decode cX7_ways 44 = .ok (.iload 4, 2) := by decide +kernel
theorem dX7_ways_46 : decode cX7_ways 46 = .ok (.iaload, 1) := by decide +kernel
theorem dX7_ways_47 : decode cX7_ways 47 = .ok (.aload_n 0, 1) := by decide +kernel
theorem dX7_ways_48 : decode cX7_ways 48 = .ok (.getfield 13, 3) := by decide +kernel
theorem dX7_ways_51 : decode cX7_ways 51 = .ok (.iload 4, 2) := by decide +kernel
theorem dX7_ways_53 : decode cX7_ways 53 = .ok (.iconst 1, 1) := by decide +kernel
theorem dX7_ways_54 : decode cX7_ways 54 = .ok (.iadd, 1) := by decide +kernel
theorem dX7_ways_55 : decode cX7_ways 55 = .ok (.iaload, 1) := by decide +kernel
theorem dX7_ways_56 : decode cX7_ways 56 = .ok (.iload_n 2, 1) := by decide +kernel
theorem dX7_ways_57 : decode cX7_ways 57 = .ok (.iload_n 3, 1) := by decide +kernel
theorem dX7_ways_58 : decode cX7_ways 58 = .ok (.invokevirtual 89, 3) := by decide +kernel
theorem dX7_ways_61 : decode cX7_ways 61 = .ok (.ireturn, 1) := by decide +kernel
theorem dX7_ways_62 : decode cX7_ways 62 = .ok (.iconst 0, 1) := by decide +kernel
theorem dX7_ways_63 : decode cX7_ways 63 = .ok (.istore 5, 2) := by decide +kernel
theorem dX7_ways_65 : decode cX7_ways 65 = .ok (.iload_n 2, 1) := by decide +kernel
theorem dX7_ways_66 : decode cX7_ways 66 = .ok (.istore 6, 2) := by decide +kernel
theorem dX7_ways_68 : decode cX7_ways 68 = .ok (.iload 6, 2) := by decide +kernel
theorem dX7_ways_70 : decode cX7_ways 70 = .ok (.iload_n 3, 1) := by decide +kernel
theorem dX7_ways_71 : decode cX7_ways 71 = .ok (.iconst 1, 1) := by decide +kernel
theorem dX7_ways_72 : decode cX7_ways 72 = .ok (.isub, 1) := by decide +kernel
theorem dX7_ways_73 : decode cX7_ways 73 = .ok (.if_icmp .ge 62, 3) := by decide +kernel
theorem dX7_ways_76 : decode cX7_ways 76 = .ok (.iload 5, 2) := by decide +kernel
theorem dX7_ways_78 : decode cX7_ways 78 = .ok (.aload_n 0, 1) := by decide +kernel
theorem dX7_ways_79 : decode cX7_ways 79 = .ok (.aload_n 0, 1) := by decide +kernel
theorem dX7_ways_80 : decode cX7_ways 80 = .ok (.getfield 13, 3) := by decide +kernel
theorem dX7_ways_83 : decode cX7_ways 83 = .ok (.iload 4, 2) := by decide +kernel
theorem dX7_ways_85 : decode cX7_ways 85 = .ok (.iaload, 1) := by decide +kernel
theorem dX7_ways_86 : decode cX7_ways 86 = .ok (.iload_n 2, 1) := by decide +kernel
theorem dX7_ways_87 : decode cX7_ways 87 = .ok (.iload 6, 2) := by decide +kernel
theorem dX7_ways_89 : decode cX7_ways 89 = .ok (.invokevirtual 81, 3) := by decide +kernel
theorem dX7_ways_92 : decode cX7_ways 92 = .ok (.aload_n 0, 1) := by decide +kernel
theorem dX7_ways_93 : decode cX7_ways 93 = .ok (.aload_n 0, 1) := by decide +kernel
theorem dX7_ways_94 : decode cX7_ways 94 = .ok (.getfield 13, 3) := by decide +kernel
theorem dX7_ways_97 : decode cX7_ways 97 = .ok (.iload 4, 2) := by decide +kernel
theorem dX7_ways_99 : decode cX7_ways 99 = .ok (.iconst 1, 1) := by decide +kernel
theorem dX7_ways_100 : decode cX7_ways 100 = .ok (.iadd, 1) := by decide +kernel
theorem dX7_ways_101 : decode cX7_ways 101 = .ok (.iaload, 1) := by decide +kernel
theorem dX7_ways_102 : decode cX7_ways 102 = .ok (.aload_n 0, 1) := by decide +kernel
theorem dX7_ways_103 : decode cX7_ways 103 = .ok (.getfield 13, 3) := by decide +kernel
theorem dX7_ways_106 : decode cX7_ways 106 = .ok (.iload 4, 2) := by decide +kernel
theorem dX7_ways_108 : decode cX7_ways 108 = .ok (.iconst 2, 1) := by decide +kernel
theorem dX7_ways_109 : decode cX7_ways 109 = .ok (.iadd, 1) := by decide +kernel
theorem dX7_ways_110 : decode cX7_ways 110 = .ok (.iaload, 1) := by decide +kernel
theorem dX7_ways_111 : decode cX7_ways 111 = .ok (.iload 6, 2) := by decide +kernel
theorem dX7_ways_113 : decode cX7_ways 113 = .ok (.iconst 1, 1) := by decide +kernel
theorem dX7_ways_114 : decode cX7_ways 114 = .ok (.iadd, 1) := by decide +kernel
theorem dX7_ways_115 : decode cX7_ways 115 = .ok (.iload_n 3, 1) := by decide +kernel
theorem dX7_ways_116 : decode cX7_ways 116 = .ok (.invokevirtual 89, 3) := by decide +kernel
theorem dX7_ways_119 : decode cX7_ways 119 = .ok (.imul, 1) := by decide +kernel
theorem dX7_ways_120 : decode cX7_ways 120 = .ok (.invokestatic 85, 3) := by decide +kernel
theorem dX7_ways_123 : decode cX7_ways 123 = .ok (.iadd, 1) := by decide +kernel
theorem dX7_ways_124 : decode cX7_ways 124 = .ok (.invokestatic 85, 3) := by decide +kernel
theorem dX7_ways_127 : decode cX7_ways 127 = .ok (.istore 5, 2) := by decide +kernel
theorem dX7_ways_129 : decode cX7_ways 129 = .ok (.iinc 6 1, 3) := by decide +kernel
theorem dX7_ways_132 : decode cX7_ways 132 = .ok (.goto (-64), 3) := by decide +kernel
theorem dX7_ways_135 : decode cX7_ways 135 = .ok (.iload 5, 2) := by decide +kernel
theorem dX7_ways_137 : decode cX7_ways 137 = .ok (.ireturn, 1) := by decide +kernel
theorem dX7_lays_0 : decode cX7_lays 0 = .ok (.iconst 1, 1) := by decide +kernel
theorem dX7_lays_1 : decode cX7_lays 1 = .ok (.istore_n 1, 1) := by decide +kernel
theorem dX7_lays_2 : decode cX7_lays 2 = .ok (.iload_n 1, 1) := by decide +kernel
theorem dX7_lays_3 : decode cX7_lays 3 = .ok (.aload_n 0, 1) := by decide +kernel
theorem dX7_lays_4 : decode cX7_lays 4 = .ok (.getfield 93, 3) := by decide +kernel
theorem dX7_lays_7 : decode cX7_lays 7 = .ok (.if_icmp .gt 135, 3) := by decide +kernel
theorem dX7_lays_10 : decode cX7_lays 10 = .ok (.iconst 0, 1) := by decide +kernel
theorem dX7_lays_11 : decode cX7_lays 11 = .ok (.istore_n 2, 1) := by decide +kernel
theorem dX7_lays_12 : decode cX7_lays 12 = .ok (.iload_n 2, 1) := by decide +kernel
theorem dX7_lays_13 : decode cX7_lays 13 = .ok (.iload_n 1, 1) := by decide +kernel
theorem dX7_lays_14 : decode cX7_lays 14 = .ok (.iadd, 1) := by decide +kernel
theorem dX7_lays_15 : decode cX7_lays 15 = .ok (.aload_n 0, 1) := by decide +kernel
theorem dX7_lays_16 : decode cX7_lays 16 = .ok (.getfield 93, 3) := by decide +kernel
theorem dX7_lays_19 : decode cX7_lays 19 = .ok (.if_icmp .gt 117, 3) := by decide +kernel
theorem dX7_lays_22 : decode cX7_lays 22 = .ok (.iload_n 2, 1) := by decide +kernel
theorem dX7_lays_23 : decode cX7_lays 23 = .ok (.iload_n 1, 1) := by decide +kernel
theorem dX7_lays_24 : decode cX7_lays 24 = .ok (.iadd, 1) := by decide +kernel
theorem dX7_lays_25 : decode cX7_lays 25 = .ok (.iconst 1, 1) := by decide +kernel
theorem dX7_lays_26 : decode cX7_lays 26 = .ok (.isub, 1) := by decide +kernel
theorem dX7_lays_27 : decode cX7_lays 27 = .ok (.istore_n 3, 1) := by decide +kernel
theorem dX7_lays_28 : decode cX7_lays 28 = .ok (.bipush 14, 2) := by decide +kernel
theorem dX7_lays_30 : decode cX7_lays 30 = .ok (.istore 4, 2) := by decide +kernel
theorem dX7_lays_32 : decode cX7_lays 32 = .ok (.iload 4, 2) := by decide +kernel
theorem dX7_lays_34 : decode cX7_lays 34 = .ok (.bipush 10, 2) := by decide +kernel
theorem dX7_lays_36 : decode cX7_lays 36 = .ok (.if_icmp .lt 94, 3) := by decide +kernel
theorem dX7_lays_39 : decode cX7_lays 39 = .ok (.iconst 0, 1) := by decide +kernel
theorem dX7_lays_40 : decode cX7_lays 40 = .ok (.istore 5, 2) := by decide +kernel
theorem dX7_lays_42 : decode cX7_lays 42 = .ok (.iconst 0, 1) := by decide +kernel
theorem dX7_lays_43 : decode cX7_lays 43 = .ok (.istore 6, 2) := by decide +kernel
theorem dX7_lays_45 : decode cX7_lays 45 = .ok (.iload 6, 2) := by decide +kernel
theorem dX7_lays_47 : decode cX7_lays 47 = .ok (.aload_n 0, 1) := by decide +kernel
theorem dX7_lays_48 : decode cX7_lays 48 = .ok (.getfield 96, 3) := by decide +kernel
theorem dX7_lays_51 : decode cX7_lays 51 = .ok (.if_icmp .ge 51, 3) := by decide +kernel
theorem dX7_lays_54 : decode cX7_lays 54 = .ok (.iload 5, 2) := by decide +kernel
theorem dX7_lays_56 : decode cX7_lays 56 = .ok (.aload_n 0, 1) := by decide +kernel
theorem dX7_lays_57 : decode cX7_lays 57 = .ok (.getfield 28, 3) := by decide +kernel
theorem dX7_lays_60 : decode cX7_lays 60 = .ok (.iload 6, 2) := by decide +kernel
theorem dX7_lays_62 : decode cX7_lays 62 = .ok (.baload, 1) := by decide +kernel
theorem dX7_lays_63 : decode cX7_lays 63 = .ok (.ifCond .ne 26, 3) := by decide +kernel
theorem dX7_lays_66 : decode cX7_lays 66 = .ok (.aload_n 0, 1) := by decide +kernel
theorem dX7_lays_67 : decode cX7_lays 67 = .ok (.getfield 7, 3) := by decide +kernel
theorem dX7_lays_70 : decode cX7_lays 70 = .ok (.iload 6, 2) := by decide +kernel
theorem dX7_lays_72 : decode cX7_lays 72 = .ok (.iaload, 1) := by decide +kernel
theorem dX7_lays_73 : decode cX7_lays 73 = .ok (.iload 4, 2) := by decide +kernel
theorem dX7_lays_75 : decode cX7_lays 75 = .ok (.if_icmp .ne 14, 3) := by decide +kernel
theorem dX7_lays_78 : decode cX7_lays 78 = .ok (.aload_n 0, 1) := by decide +kernel
theorem dX7_lays_79 : decode cX7_lays 79 = .ok (.iload 6, 2) := by decide +kernel
theorem dX7_lays_81 : decode cX7_lays 81 = .ok (.iload_n 2, 1) := by decide +kernel
theorem dX7_lays_82 : decode cX7_lays 82 = .ok (.iload_n 3, 1) := by decide +kernel
theorem dX7_lays_83 : decode cX7_lays 83 = .ok (.invokevirtual 99, 3) := by decide +kernel
theorem dX7_lays_86 : decode cX7_lays 86 = .ok (.goto 4, 3) := by decide +kernel
theorem dX7_lays_89 : decode cX7_lays 89 = .ok (.iconst 0, 1) := by decide +kernel
theorem dX7_lays_90 : decode cX7_lays 90 = .ok (.iadd, 1) := by decide +kernel
theorem dX7_lays_91 : decode cX7_lays 91 = .ok (.invokestatic 85, 3) := by decide +kernel
theorem dX7_lays_94 : decode cX7_lays 94 = .ok (.istore 5, 2) := by decide +kernel
theorem dX7_lays_96 : decode cX7_lays 96 = .ok (.iinc 6 1, 3) := by decide +kernel
theorem dX7_lays_99 : decode cX7_lays 99 = .ok (.goto (-54), 3) := by decide +kernel
theorem dX7_lays_102 : decode cX7_lays 102 = .ok (.aload_n 0, 1) := by decide +kernel
theorem dX7_lays_103 : decode cX7_lays 103 = .ok (.getfield 47, 3) := by decide +kernel
theorem dX7_lays_106 : decode cX7_lays 106 = .ok (.bipush 100, 2) := by decide +kernel
theorem dX7_lays_108 : decode cX7_lays 108 = .ok (.iload 4, 2) := by decide +kernel
theorem dX7_lays_110 : decode cX7_lays 110 = .ok (.bipush 10, 2) := by decide +kernel
theorem dX7_lays_112 : decode cX7_lays 112 = .ok (.isub, 1) := by decide +kernel
theorem dX7_lays_113 : decode cX7_lays 113 = .ok (.imul, 1) := by decide +kernel
theorem dX7_lays_114 : decode cX7_lays 114 = .ok (.bipush 10, 2) := by decide +kernel
theorem dX7_lays_116 : decode cX7_lays 116 = .ok (.iload_n 2, 1) := by decide +kernel
theorem dX7_lays_117 : decode cX7_lays 117 = .ok (.imul, 1) := by decide +kernel
theorem dX7_lays_118 : decode cX7_lays 118 = .ok (.iadd, 1) := by decide +kernel
theorem dX7_lays_119 : decode cX7_lays 119 = .ok (.iload_n 3, 1) := by decide +kernel
theorem dX7_lays_120 : decode cX7_lays 120 = .ok (.iadd, 1) := by decide +kernel
theorem dX7_lays_121 : decode cX7_lays 121 = .ok (.iload 5, 2) := by decide +kernel
theorem dX7_lays_123 : decode cX7_lays 123 = .ok (.iastore, 1) := by decide +kernel
theorem dX7_lays_124 : decode cX7_lays 124 = .ok (.iinc 4 (-1), 3) := by decide +kernel
theorem dX7_lays_127 : decode cX7_lays 127 = .ok (.goto (-95), 3) := by decide +kernel
theorem dX7_lays_130 : decode cX7_lays 130 = .ok (.iinc 2 1, 3) := by decide +kernel
theorem dX7_lays_133 : decode cX7_lays 133 = .ok (.goto (-121), 3) := by decide +kernel
theorem dX7_lays_136 : decode cX7_lays 136 = .ok (.iinc 1 1, 3) := by decide +kernel
theorem dX7_lays_139 : decode cX7_lays 139 = .ok (.goto (-137), 3) := by decide +kernel
theorem dX7_lays_142 : decode cX7_lays 142 = .ok (.return_, 1) := by decide +kernel
theorem dX7_laysText_0 : decode cX7_laysText 0 = .ok (.aload_n 0, 1) := by decide +kernel
theorem dX7_laysText_1 : decode cX7_laysText 1 = .ok (.aload_n 0, 1) := by decide +kernel
theorem dX7_laysText_2 : decode cX7_laysText 2 = .ok (.getfield 35, 3) := by decide +kernel
theorem dX7_laysText_5 : decode cX7_laysText 5 = .ok (.iload_n 1, 1) := by decide +kernel
theorem dX7_laysText_6 : decode cX7_laysText 6 = .ok (.iaload, 1) := by decide +kernel
theorem dX7_laysText_7 : decode cX7_laysText 7 = .ok (.putfield 93, 3) := by decide +kernel
theorem dX7_laysText_10 : decode cX7_laysText 10 = .ok (.iconst 0, 1) := by decide +kernel
theorem dX7_laysText_11 : decode cX7_laysText 11 = .ok (.istore_n 2, 1) := by decide +kernel
theorem dX7_laysText_12 : decode cX7_laysText 12 = .ok (.iload_n 2, 1) := by decide +kernel
theorem dX7_laysText_13 : decode cX7_laysText 13 = .ok (.aload_n 0, 1) := by decide +kernel
theorem dX7_laysText_14 : decode cX7_laysText 14 = .ok (.getfield 93, 3) := by decide +kernel
theorem dX7_laysText_17 : decode cX7_laysText 17 = .ok (.if_icmp .ge 26, 3) := by decide +kernel
theorem dX7_laysText_20 : decode cX7_laysText 20 = .ok (.aload_n 0, 1) := by decide +kernel
theorem dX7_laysText_21 : decode cX7_laysText 21 = .ok (.getfield 44, 3) := by decide +kernel
theorem dX7_laysText_24 : decode cX7_laysText 24 = .ok (.iload_n 2, 1) := by decide +kernel
theorem dX7_laysText_25 : decode cX7_laysText 25 = .ok (.aload_n 0, 1) := by decide +kernel
theorem dX7_laysText_26 : decode cX7_laysText 26 = .ok (.getfield 32, 3) := by decide +kernel
theorem dX7_laysText_29 : decode cX7_laysText 29 = .ok (.bipush 10, 2) := by decide +kernel
theorem dX7_laysText_31 : decode cX7_laysText 31 = .ok (.iload_n 1, 1) := by decide +kernel
theorem dX7_laysText_32 : decode cX7_laysText 32 = .ok (.imul, 1) := by decide +kernel
theorem dX7_laysText_33 : decode cX7_laysText 33 = .ok (.iload_n 2, 1) := by decide +kernel
theorem dX7_laysText_34 : decode cX7_laysText 34 = .ok (.iadd, 1) := by decide +kernel
theorem dX7_laysText_35 : decode cX7_laysText 35 = .ok (.iaload, 1) := by decide +kernel
theorem dX7_laysText_36 : decode cX7_laysText 36 = .ok (.iastore, 1) := by decide +kernel
theorem dX7_laysText_37 : decode cX7_laysText 37 = .ok (.iinc 2 1, 3) := by decide +kernel
theorem dX7_laysText_40 : decode cX7_laysText 40 = .ok (.goto (-28), 3) := by decide +kernel
theorem dX7_laysText_43 : decode cX7_laysText 43 = .ok (.aload_n 0, 1) := by decide +kernel
theorem dX7_laysText_44 : decode cX7_laysText 44 = .ok (.invokevirtual 102, 3) := by decide +kernel
theorem dX7_laysText_47 : decode cX7_laysText 47 = .ok (.aload_n 0, 1) := by decide +kernel
theorem dX7_laysText_48 : decode cX7_laysText 48 = .ok (.bipush 10, 2) := by decide +kernel
theorem dX7_laysText_50 : decode cX7_laysText 50 = .ok (.iconst 0, 1) := by decide +kernel
theorem dX7_laysText_51 : decode cX7_laysText 51 = .ok (.aload_n 0, 1) := by decide +kernel
theorem dX7_laysText_52 : decode cX7_laysText 52 = .ok (.getfield 93, 3) := by decide +kernel
theorem dX7_laysText_55 : decode cX7_laysText 55 = .ok (.iconst 1, 1) := by decide +kernel
theorem dX7_laysText_56 : decode cX7_laysText 56 = .ok (.isub, 1) := by decide +kernel
theorem dX7_laysText_57 : decode cX7_laysText 57 = .ok (.invokevirtual 81, 3) := by decide +kernel
theorem dX7_laysText_60 : decode cX7_laysText 60 = .ok (.ireturn, 1) := by decide +kernel
theorem dX7_chosen_0 : decode cX7_chosen 0 = .ok (.iconst (-1), 1) := by decide +kernel
theorem dX7_chosen_1 : decode cX7_chosen 1 = .ok (.istore 4, 2) := by decide +kernel
theorem dX7_chosen_3 : decode cX7_chosen 3 = .ok (.iconst 0, 1) := by decide +kernel
theorem dX7_chosen_4 : decode cX7_chosen 4 = .ok (.istore 5, 2) := by decide +kernel
theorem dX7_chosen_6 : decode cX7_chosen 6 = .ok (.iload 5, 2) := by decide +kernel
theorem dX7_chosen_8 : decode cX7_chosen 8 = .ok (.aload_n 0, 1) := by decide +kernel
theorem dX7_chosen_9 : decode cX7_chosen 9 = .ok (.getfield 96, 3) := by decide +kernel
theorem dX7_chosen_12 : decode cX7_chosen 12 = .ok (.if_icmp .ge 85, 3) := by decide +kernel
theorem dX7_chosen_15 : decode cX7_chosen 15 = .ok (.aload_n 0, 1) := by decide +kernel
theorem dX7_chosen_16 : decode cX7_chosen 16 = .ok (.getfield 28, 3) := by decide +kernel
theorem dX7_chosen_19 : decode cX7_chosen 19 = .ok (.iload 5, 2) := by decide +kernel
theorem dX7_chosen_21 : decode cX7_chosen 21 = .ok (.baload, 1) := by decide +kernel
theorem dX7_chosen_22 : decode cX7_chosen 22 = .ok (.ifCond .ne 29, 3) := by decide +kernel
theorem dX7_chosen_25 : decode cX7_chosen 25 = .ok (.aload_n 0, 1) := by decide +kernel
theorem dX7_chosen_26 : decode cX7_chosen 26 = .ok (.getfield 7, 3) := by decide +kernel
theorem dX7_chosen_29 : decode cX7_chosen 29 = .ok (.iload 5, 2) := by decide +kernel
theorem dX7_chosen_31 : decode cX7_chosen 31 = .ok (.iaload, 1) := by decide +kernel
theorem dX7_chosen_32 : decode cX7_chosen 32 = .ok (.iload_n 1, 1) := by decide +kernel
theorem dX7_chosen_33 : decode cX7_chosen 33 = .ok (.if_icmp .ne 18, 3) := by decide +kernel
theorem dX7_chosen_36 : decode cX7_chosen 36 = .ok (.aload_n 0, 1) := by decide +kernel
theorem dX7_chosen_37 : decode cX7_chosen 37 = .ok (.iload 5, 2) := by decide +kernel
theorem dX7_chosen_39 : decode cX7_chosen 39 = .ok (.iload_n 2, 1) := by decide +kernel
theorem dX7_chosen_40 : decode cX7_chosen 40 = .ok (.iload_n 3, 1) := by decide +kernel
theorem dX7_chosen_41 : decode cX7_chosen 41 = .ok (.invokevirtual 99, 3) := by decide +kernel
theorem dX7_chosen_44 : decode cX7_chosen 44 = .ok (.ifCond .le 7, 3) := by decide +kernel
theorem dX7_chosen_47 : decode cX7_chosen 47 = .ok (.iconst 1, 1) := by decide +kernel
theorem dX7_chosen_48 : decode cX7_chosen 48 = .ok (.goto 4, 3) := by decide +kernel
theorem dX7_chosen_51 : decode cX7_chosen 51 = .ok (.iconst 0, 1) := by decide +kernel
theorem dX7_chosen_52 : decode cX7_chosen 52 = .ok (.istore 6, 2) := by decide +kernel
theorem dX7_chosen_54 : decode cX7_chosen 54 = .ok (.iload 6, 2) := by decide +kernel
theorem dX7_chosen_56 : decode cX7_chosen 56 = .ok (.ifCond .eq 31, 3) := by decide +kernel
theorem dX7_chosen_59 : decode cX7_chosen 59 = .ok (.iload 4, 2) := by decide +kernel
theorem dX7_chosen_61 : decode cX7_chosen 61 = .ok (.iconst (-1), 1) := by decide +kernel
theorem dX7_chosen_62 : decode cX7_chosen 62 = .ok (.if_icmp .eq 20, 3) := by decide +kernel
theorem dX7_chosen_65 : decode cX7_chosen 65 = .ok (.aload_n 0, 1) := by decide +kernel
theorem dX7_chosen_66 : decode cX7_chosen 66 = .ok (.getfield 19, 3) := by decide +kernel
theorem dX7_chosen_69 : decode cX7_chosen 69 = .ok (.iload 5, 2) := by decide +kernel
theorem dX7_chosen_71 : decode cX7_chosen 71 = .ok (.iaload, 1) := by decide +kernel
theorem dX7_chosen_72 : decode cX7_chosen 72 = .ok (.aload_n 0, 1) := by decide +kernel
theorem dX7_chosen_73 : decode cX7_chosen 73 = .ok (.getfield 19, 3) := by decide +kernel
theorem dX7_chosen_76 : decode cX7_chosen 76 = .ok (.iload 4, 2) := by decide +kernel
theorem dX7_chosen_78 : decode cX7_chosen 78 = .ok (.iaload, 1) := by decide +kernel
theorem dX7_chosen_79 : decode cX7_chosen 79 = .ok (.if_icmp .le 8, 3) := by decide +kernel
theorem dX7_chosen_82 : decode cX7_chosen 82 = .ok (.iload 5, 2) := by decide +kernel
theorem dX7_chosen_84 : decode cX7_chosen 84 = .ok (.goto 5, 3) := by decide +kernel
theorem dX7_chosen_87 : decode cX7_chosen 87 = .ok (.iload 4, 2) := by decide +kernel
theorem dX7_chosen_89 : decode cX7_chosen 89 = .ok (.istore 4, 2) := by decide +kernel
theorem dX7_chosen_91 : decode cX7_chosen 91 = .ok (.iinc 5 1, 3) := by decide +kernel
theorem dX7_chosen_94 : decode cX7_chosen 94 = .ok (.goto (-88), 3) := by decide +kernel
theorem dX7_chosen_97 : decode cX7_chosen 97 = .ok (.iload 4, 2) := by decide +kernel
theorem dX7_chosen_99 : decode cX7_chosen 99 = .ok (.ireturn, 1) := by decide +kernel
theorem dX7_sees_0 : decode cX7_sees 0 = .ok (.iload_n 1, 1) := by decide +kernel
theorem dX7_sees_1 : decode cX7_sees 1 = .ok (.invokestatic 74, 3) := by decide +kernel
theorem dX7_sees_4 : decode cX7_sees 4 = .ok (.ifCond .eq 15, 3) := by decide +kernel
theorem dX7_sees_7 : decode cX7_sees 7 = .ok (.aload_n 0, 1) := by decide +kernel
theorem dX7_sees_8 : decode cX7_sees 8 = .ok (.iload_n 1, 1) := by decide +kernel
theorem dX7_sees_9 : decode cX7_sees 9 = .ok (.iload_n 2, 1) := by decide +kernel
theorem dX7_sees_10 : decode cX7_sees 10 = .ok (.iload_n 3, 1) := by decide +kernel
theorem dX7_sees_11 : decode cX7_sees 11 = .ok (.iload 4, 2) := by decide +kernel
theorem dX7_sees_13 : decode cX7_sees 13 = .ok (.iload 5, 2) := by decide +kernel
theorem dX7_sees_15 : decode cX7_sees 15 = .ok (.invokevirtual 105, 3) := by decide +kernel
theorem dX7_sees_18 : decode cX7_sees 18 = .ok (.return_, 1) := by decide +kernel
theorem dX7_sees_19 : decode cX7_sees 19 = .ok (.aload_n 0, 1) := by decide +kernel
theorem dX7_sees_20 : decode cX7_sees 20 = .ok (.getfield 53, 3) := by decide +kernel
theorem dX7_sees_23 : decode cX7_sees 23 = .ok (.iload_n 2, 1) := by decide +kernel
theorem dX7_sees_24 : decode cX7_sees 24 = .ok (.iload 5, 2) := by decide +kernel
theorem dX7_sees_26 : decode cX7_sees 26 = .ok (.iastore, 1) := by decide +kernel
theorem dX7_sees_27 : decode cX7_sees 27 = .ok (.aload_n 0, 1) := by decide +kernel
theorem dX7_sees_28 : decode cX7_sees 28 = .ok (.getfield 56, 3) := by decide +kernel
theorem dX7_sees_31 : decode cX7_sees 31 = .ok (.aload_n 0, 1) := by decide +kernel
theorem dX7_sees_32 : decode cX7_sees 32 = .ok (.getfield 109, 3) := by decide +kernel
theorem dX7_sees_35 : decode cX7_sees 35 = .ok (.bipush 97, 2) := by decide +kernel
theorem dX7_sees_37 : decode cX7_sees 37 = .ok (.iload_n 1, 1) := by decide +kernel
theorem dX7_sees_38 : decode cX7_sees 38 = .ok (.iadd, 1) := by decide +kernel
theorem dX7_sees_39 : decode cX7_sees 39 = .ok (.i2c, 1) := by decide +kernel
theorem dX7_sees_40 : decode cX7_sees 40 = .ok (.castore, 1) := by decide +kernel
theorem dX7_sees_41 : decode cX7_sees 41 = .ok (.aload_n 0, 1) := by decide +kernel
theorem dX7_sees_42 : decode cX7_sees 42 = .ok (.dup, 1) := by decide +kernel
theorem dX7_sees_43 : decode cX7_sees 43 = .ok (.getfield 109, 3) := by decide +kernel
theorem dX7_sees_46 : decode cX7_sees 46 = .ok (.iconst 1, 1) := by decide +kernel
theorem dX7_sees_47 : decode cX7_sees 47 = .ok (.iadd, 1) := by decide +kernel
theorem dX7_sees_48 : decode cX7_sees 48 = .ok (.putfield 109, 3) := by decide +kernel
theorem dX7_sees_51 : decode cX7_sees 51 = .ok (.return_, 1) := by decide +kernel
theorem dX7_blanks_0 : decode cX7_blanks 0 = .ok (.iconst 0, 1) := by decide +kernel
theorem dX7_blanks_1 : decode cX7_blanks 1 = .ok (.istore_n 2, 1) := by decide +kernel
theorem dX7_blanks_2 : decode cX7_blanks 2 = .ok (.iload_n 2, 1) := by decide +kernel
theorem dX7_blanks_3 : decode cX7_blanks 3 = .ok (.aload_n 0, 1) := by decide +kernel
theorem dX7_blanks_4 : decode cX7_blanks 4 = .ok (.getfield 25, 3) := by decide +kernel
theorem dX7_blanks_7 : decode cX7_blanks 7 = .ok (.iload_n 1, 1) := by decide +kernel
theorem dX7_blanks_8 : decode cX7_blanks 8 = .ok (.iaload, 1) := by decide +kernel
theorem dX7_blanks_9 : decode cX7_blanks 9 = .ok (.if_icmp .ge 30, 3) := by decide +kernel
theorem dX7_blanks_12 : decode cX7_blanks 12 = .ok (.aload_n 0, 1) := by decide +kernel
theorem dX7_blanks_13 : decode cX7_blanks 13 = .ok (.getfield 56, 3) := by decide +kernel
theorem dX7_blanks_16 : decode cX7_blanks 16 = .ok (.aload_n 0, 1) := by decide +kernel
theorem dX7_blanks_17 : decode cX7_blanks 17 = .ok (.getfield 109, 3) := by decide +kernel
theorem dX7_blanks_20 : decode cX7_blanks 20 = .ok (.bipush 32, 2) := by decide +kernel
theorem dX7_blanks_22 : decode cX7_blanks 22 = .ok (.castore, 1) := by decide +kernel
theorem dX7_blanks_23 : decode cX7_blanks 23 = .ok (.aload_n 0, 1) := by decide +kernel
theorem dX7_blanks_24 : decode cX7_blanks 24 = .ok (.dup, 1) := by decide +kernel
theorem dX7_blanks_25 : decode cX7_blanks 25 = .ok (.getfield 109, 3) := by decide +kernel
theorem dX7_blanks_28 : decode cX7_blanks 28 = .ok (.iconst 1, 1) := by decide +kernel
theorem dX7_blanks_29 : decode cX7_blanks 29 = .ok (.iadd, 1) := by decide +kernel
theorem dX7_blanks_30 : decode cX7_blanks 30 = .ok (.putfield 109, 3) := by decide +kernel
theorem dX7_blanks_33 : decode cX7_blanks 33 = .ok (.iinc 2 1, 3) := by decide +kernel
theorem dX7_blanks_36 : decode cX7_blanks 36 = .ok (.goto (-34), 3) := by decide +kernel
theorem dX7_blanks_39 : decode cX7_blanks 39 = .ok (.return_, 1) := by decide +kernel
theorem dX7_cut_0 : decode cX7_cut 0 = .ok (.iload_n 3, 1) := by decide +kernel
theorem dX7_cut_1 : decode cX7_cut 1 = .ok (.istore 5, 2) := by decide +kernel
theorem dX7_cut_3 : decode cX7_cut 3 = .ok (.aload_n 0, 1) := by decide +kernel
theorem dX7_cut_4 : decode cX7_cut 4 = .ok (.iload_n 1, 1) := by decide +kernel
theorem dX7_cut_5 : decode cX7_cut 5 = .ok (.iload_n 3, 1) := by decide +kernel
theorem dX7_cut_6 : decode cX7_cut 6 = .ok (.iload 5, 2) := by decide +kernel
theorem dX7_cut_8 : decode cX7_cut 8 = .ok (.invokevirtual 81, 3) := by decide +kernel
theorem dX7_cut_11 : decode cX7_cut 11 = .ok (.ifCond .eq 17, 3) := by decide +kernel
theorem dX7_cut_14 : decode cX7_cut 14 = .ok (.aload_n 0, 1) := by decide +kernel
theorem dX7_cut_15 : decode cX7_cut 15 = .ok (.iload_n 2, 1) := by decide +kernel
theorem dX7_cut_16 : decode cX7_cut 16 = .ok (.iload 5, 2) := by decide +kernel
theorem dX7_cut_18 : decode cX7_cut 18 = .ok (.iconst 1, 1) := by decide +kernel
theorem dX7_cut_19 : decode cX7_cut 19 = .ok (.iadd, 1) := by decide +kernel
theorem dX7_cut_20 : decode cX7_cut 20 = .ok (.iload 4, 2) := by decide +kernel
theorem dX7_cut_22 : decode cX7_cut 22 = .ok (.invokevirtual 81, 3) := by decide +kernel
theorem dX7_cut_25 : decode cX7_cut 25 = .ok (.ifCond .ne 9, 3) := by decide +kernel
theorem dX7_cut_28 : decode cX7_cut 28 = .ok (.iinc 5 1, 3) := by decide +kernel
theorem dX7_cut_31 : decode cX7_cut 31 = .ok (.goto (-28), 3) := by decide +kernel
theorem dX7_cut_34 : decode cX7_cut 34 = .ok (.iload 5, 2) := by decide +kernel
theorem dX7_cut_36 : decode cX7_cut 36 = .ok (.ireturn, 1) := by decide +kernel
theorem dX7_walks_0 : decode cX7_walks 0 = .ok (.aload_n 0, 1) := by decide +kernel
theorem dX7_walks_1 : decode cX7_walks 1 = .ok (.iload_n 1, 1) := by decide +kernel
theorem dX7_walks_2 : decode cX7_walks 2 = .ok (.iload_n 2, 1) := by decide +kernel
theorem dX7_walks_3 : decode cX7_walks 3 = .ok (.iload_n 3, 1) := by decide +kernel
theorem dX7_walks_4 : decode cX7_walks 4 = .ok (.invokevirtual 112, 3) := by decide +kernel
theorem dX7_walks_7 : decode cX7_walks 7 = .ok (.istore 6, 2) := by decide +kernel
theorem dX7_walks_9 : decode cX7_walks 9 = .ok (.aload_n 0, 1) := by decide +kernel
theorem dX7_walks_10 : decode cX7_walks 10 = .ok (.getfield 22, 3) := by decide +kernel
theorem dX7_walks_13 : decode cX7_walks 13 = .ok (.iload 6, 2) := by decide +kernel
theorem dX7_walks_15 : decode cX7_walks 15 = .ok (.iaload, 1) := by decide +kernel
theorem dX7_walks_16 : decode cX7_walks 16 = .ok (.ifCond .ne 8, 3) := by decide +kernel
theorem dX7_walks_19 : decode cX7_walks 19 = .ok (.iload 5, 2) := by decide +kernel
theorem dX7_walks_21 : decode cX7_walks 21 = .ok (.goto 10, 3) := by decide +kernel
theorem dX7_walks_24 : decode cX7_walks 24 = .ok (.aload_n 0, 1) := by decide +kernel
theorem dX7_walks_25 : decode cX7_walks 25 = .ok (.getfield 22, 3) := by decide +kernel
theorem dX7_walks_28 : decode cX7_walks 28 = .ok (.iload 6, 2) := by decide +kernel
theorem dX7_walks_30 : decode cX7_walks 30 = .ok (.iaload, 1) := by decide +kernel
theorem dX7_walks_31 : decode cX7_walks 31 = .ok (.istore 7, 2) := by decide +kernel
theorem dX7_walks_33 : decode cX7_walks 33 = .ok (.iconst 3, 1) := by decide +kernel
theorem dX7_walks_34 : decode cX7_walks 34 = .ok (.iload 6, 2) := by decide +kernel
theorem dX7_walks_36 : decode cX7_walks 36 = .ok (.imul, 1) := by decide +kernel
theorem dX7_walks_37 : decode cX7_walks 37 = .ok (.istore 8, 2) := by decide +kernel
theorem dX7_walks_39 : decode cX7_walks 39 = .ok (.aload_n 0, 1) := by decide +kernel
theorem dX7_walks_40 : decode cX7_walks 40 = .ok (.getfield 50, 3) := by decide +kernel
theorem dX7_walks_43 : decode cX7_walks 43 = .ok (.aload_n 0, 1) := by decide +kernel
theorem dX7_walks_44 : decode cX7_walks 44 = .ok (.getfield 115, 3) := by decide +kernel
theorem dX7_walks_47 : decode cX7_walks 47 = .ok (.iload 6, 2) := by decide +kernel
theorem dX7_walks_49 : decode cX7_walks 49 = .ok (.iastore, 1) := by decide +kernel
theorem dX7_walks_50 : decode cX7_walks 50 = .ok (.aload_n 0, 1) := by decide +kernel
theorem dX7_walks_51 : decode cX7_walks 51 = .ok (.dup, 1) := by decide +kernel
theorem dX7_walks_52 : decode cX7_walks 52 = .ok (.getfield 115, 3) := by decide +kernel
theorem dX7_walks_55 : decode cX7_walks 55 = .ok (.iconst 1, 1) := by decide +kernel
theorem dX7_walks_56 : decode cX7_walks 56 = .ok (.iadd, 1) := by decide +kernel
theorem dX7_walks_57 : decode cX7_walks 57 = .ok (.putfield 115, 3) := by decide +kernel
theorem dX7_walks_60 : decode cX7_walks 60 = .ok (.aload_n 0, 1) := by decide +kernel
theorem dX7_walks_61 : decode cX7_walks 61 = .ok (.iload 4, 2) := by decide +kernel
theorem dX7_walks_63 : decode cX7_walks 63 = .ok (.aload_n 0, 1) := by decide +kernel
theorem dX7_walks_64 : decode cX7_walks 64 = .ok (.getfield 118, 3) := by decide +kernel
theorem dX7_walks_67 : decode cX7_walks 67 = .ok (.if_icmp .le 8, 3) := by decide +kernel
theorem dX7_walks_70 : decode cX7_walks 70 = .ok (.iload 4, 2) := by decide +kernel
theorem dX7_walks_72 : decode cX7_walks 72 = .ok (.goto 7, 3) := by decide +kernel
theorem dX7_walks_75 : decode cX7_walks 75 = .ok (.aload_n 0, 1) := by decide +kernel
theorem dX7_walks_76 : decode cX7_walks 76 = .ok (.getfield 118, 3) := by decide +kernel
theorem dX7_walks_79 : decode cX7_walks 79 = .ok (.putfield 118, 3) := by decide +kernel
theorem dX7_walks_82 : decode cX7_walks 82 = .ok (.aload_n 0, 1) := by decide +kernel
theorem dX7_walks_83 : decode cX7_walks 83 = .ok (.getfield 16, 3) := by decide +kernel
theorem dX7_walks_86 : decode cX7_walks 86 = .ok (.iload 6, 2) := by decide +kernel
theorem dX7_walks_88 : decode cX7_walks 88 = .ok (.iaload, 1) := by decide +kernel
theorem dX7_walks_89 : decode cX7_walks 89 = .ok (.iconst 1, 1) := by decide +kernel
theorem dX7_walks_90 : decode cX7_walks 90 = .ok (.if_icmp .ne 23, 3) := by decide +kernel
theorem dX7_walks_93 : decode cX7_walks 93 = .ok (.aload_n 0, 1) := by decide +kernel
theorem dX7_walks_94 : decode cX7_walks 94 = .ok (.aload_n 0, 1) := by decide +kernel
theorem dX7_walks_95 : decode cX7_walks 95 = .ok (.getfield 13, 3) := by decide +kernel
theorem dX7_walks_98 : decode cX7_walks 98 = .ok (.iload 8, 2) := by decide +kernel
theorem dX7_walks_100 : decode cX7_walks 100 = .ok (.iaload, 1) := by decide +kernel
theorem dX7_walks_101 : decode cX7_walks 101 = .ok (.iload_n 2, 1) := by decide +kernel
theorem dX7_walks_102 : decode cX7_walks 102 = .ok (.iload_n 3, 1) := by decide +kernel
theorem dX7_walks_103 : decode cX7_walks 103 = .ok (.iload 4, 2) := by decide +kernel
theorem dX7_walks_105 : decode cX7_walks 105 = .ok (.iconst 1, 1) := by decide +kernel
theorem dX7_walks_106 : decode cX7_walks 106 = .ok (.iadd, 1) := by decide +kernel
theorem dX7_walks_107 : decode cX7_walks 107 = .ok (.iload 7, 2) := by decide +kernel
theorem dX7_walks_109 : decode cX7_walks 109 = .ok (.invokevirtual 121, 3) := by decide +kernel
theorem dX7_walks_112 : decode cX7_walks 112 = .ok (.return_, 1) := by decide +kernel
theorem dX7_walks_113 : decode cX7_walks 113 = .ok (.aload_n 0, 1) := by decide +kernel
theorem dX7_walks_114 : decode cX7_walks 114 = .ok (.getfield 16, 3) := by decide +kernel
theorem dX7_walks_117 : decode cX7_walks 117 = .ok (.iload 6, 2) := by decide +kernel
theorem dX7_walks_119 : decode cX7_walks 119 = .ok (.iaload, 1) := by decide +kernel
theorem dX7_walks_120 : decode cX7_walks 120 = .ok (.iconst 2, 1) := by decide +kernel
theorem dX7_walks_121 : decode cX7_walks 121 = .ok (.if_icmp .ne 78, 3) := by decide +kernel
theorem dX7_walks_124 : decode cX7_walks 124 = .ok (.aload_n 0, 1) := by decide +kernel
theorem dX7_walks_125 : decode cX7_walks 125 = .ok (.aload_n 0, 1) := by decide +kernel
theorem dX7_walks_126 : decode cX7_walks 126 = .ok (.getfield 13, 3) := by decide +kernel
theorem dX7_walks_129 : decode cX7_walks 129 = .ok (.iload 8, 2) := by decide +kernel
theorem dX7_walks_131 : decode cX7_walks 131 = .ok (.iaload, 1) := by decide +kernel
theorem dX7_walks_132 : decode cX7_walks 132 = .ok (.aload_n 0, 1) := by decide +kernel
theorem dX7_walks_133 : decode cX7_walks 133 = .ok (.getfield 13, 3) := by decide +kernel
theorem dX7_walks_136 : decode cX7_walks 136 = .ok (.iload 8, 2) := by decide +kernel
theorem dX7_walks_138 : decode cX7_walks 138 = .ok (.iconst 1, 1) := by decide +kernel
theorem dX7_walks_139 : decode cX7_walks 139 = .ok (.iadd, 1) := by decide +kernel
theorem dX7_walks_140 : decode cX7_walks 140 = .ok (.iaload, 1) := by decide +kernel
theorem dX7_walks_141 : decode cX7_walks 141 = .ok (.iload_n 2, 1) := by decide +kernel
theorem dX7_walks_142 : decode cX7_walks 142 = .ok (.iload_n 3, 1) := by decide +kernel
theorem dX7_walks_143 : decode cX7_walks 143 = .ok (.invokevirtual 124, 3) := by decide +kernel
theorem dX7_walks_146 : decode cX7_walks 146 = .ok (.istore 9, 2) := by decide +kernel
theorem dX7_walks_148 : decode cX7_walks 148 = .ok (.aload_n 0, 1) := by decide +kernel
theorem dX7_walks_149 : decode cX7_walks 149 = .ok (.aload_n 0, 1) := by decide +kernel
theorem dX7_walks_150 : decode cX7_walks 150 = .ok (.getfield 13, 3) := by decide +kernel
theorem dX7_walks_153 : decode cX7_walks 153 = .ok (.iload 8, 2) := by decide +kernel
theorem dX7_walks_155 : decode cX7_walks 155 = .ok (.iaload, 1) := by decide +kernel
theorem dX7_walks_156 : decode cX7_walks 156 = .ok (.iload_n 2, 1) := by decide +kernel
theorem dX7_walks_157 : decode cX7_walks 157 = .ok (.iload 9, 2) := by decide +kernel
theorem dX7_walks_159 : decode cX7_walks 159 = .ok (.iload 4, 2) := by decide +kernel
theorem dX7_walks_161 : decode cX7_walks 161 = .ok (.iconst 1, 1) := by decide +kernel
theorem dX7_walks_162 : decode cX7_walks 162 = .ok (.iadd, 1) := by decide +kernel
theorem dX7_walks_163 : decode cX7_walks 163 = .ok (.iload 7, 2) := by decide +kernel
theorem dX7_walks_165 : decode cX7_walks 165 = .ok (.invokevirtual 121, 3) := by decide +kernel
theorem dX7_walks_168 : decode cX7_walks 168 = .ok (.aload_n 0, 1) := by decide +kernel
theorem dX7_walks_169 : decode cX7_walks 169 = .ok (.iload 6, 2) := by decide +kernel
theorem dX7_walks_171 : decode cX7_walks 171 = .ok (.invokevirtual 127, 3) := by decide +kernel
theorem dX7_walks_174 : decode cX7_walks 174 = .ok (.aload_n 0, 1) := by decide +kernel
theorem dX7_walks_175 : decode cX7_walks 175 = .ok (.aload_n 0, 1) := by decide +kernel
theorem dX7_walks_176 : decode cX7_walks 176 = .ok (.getfield 13, 3) := by decide +kernel
theorem dX7_walks_179 : decode cX7_walks 179 = .ok (.iload 8, 2) := by decide +kernel
theorem dX7_walks_181 : decode cX7_walks 181 = .ok (.iconst 1, 1) := by decide +kernel
theorem dX7_walks_182 : decode cX7_walks 182 = .ok (.iadd, 1) := by decide +kernel
theorem dX7_walks_183 : decode cX7_walks 183 = .ok (.iaload, 1) := by decide +kernel
theorem dX7_walks_184 : decode cX7_walks 184 = .ok (.iload 9, 2) := by decide +kernel
theorem dX7_walks_186 : decode cX7_walks 186 = .ok (.iconst 1, 1) := by decide +kernel
theorem dX7_walks_187 : decode cX7_walks 187 = .ok (.iadd, 1) := by decide +kernel
theorem dX7_walks_188 : decode cX7_walks 188 = .ok (.iload_n 3, 1) := by decide +kernel
theorem dX7_walks_189 : decode cX7_walks 189 = .ok (.iload 4, 2) := by decide +kernel
theorem dX7_walks_191 : decode cX7_walks 191 = .ok (.iconst 1, 1) := by decide +kernel
theorem dX7_walks_192 : decode cX7_walks 192 = .ok (.iadd, 1) := by decide +kernel
theorem dX7_walks_193 : decode cX7_walks 193 = .ok (.iload 7, 2) := by decide +kernel
theorem dX7_walks_195 : decode cX7_walks 195 = .ok (.invokevirtual 121, 3) := by decide +kernel
theorem dX7_walks_198 : decode cX7_walks 198 = .ok (.return_, 1) := by decide +kernel
theorem dX7_walks_199 : decode cX7_walks 199 = .ok (.iload_n 2, 1) := by decide +kernel
theorem dX7_walks_200 : decode cX7_walks 200 = .ok (.istore 9, 2) := by decide +kernel
theorem dX7_walks_202 : decode cX7_walks 202 = .ok (.aload_n 0, 1) := by decide +kernel
theorem dX7_walks_203 : decode cX7_walks 203 = .ok (.aload_n 0, 1) := by decide +kernel
theorem dX7_walks_204 : decode cX7_walks 204 = .ok (.getfield 13, 3) := by decide +kernel
theorem dX7_walks_207 : decode cX7_walks 207 = .ok (.iload 8, 2) := by decide +kernel
theorem dX7_walks_209 : decode cX7_walks 209 = .ok (.iaload, 1) := by decide +kernel
theorem dX7_walks_210 : decode cX7_walks 210 = .ok (.iload_n 2, 1) := by decide +kernel
theorem dX7_walks_211 : decode cX7_walks 211 = .ok (.iload 9, 2) := by decide +kernel
theorem dX7_walks_213 : decode cX7_walks 213 = .ok (.invokevirtual 81, 3) := by decide +kernel
theorem dX7_walks_216 : decode cX7_walks 216 = .ok (.ifCond .eq 33, 3) := by decide +kernel
theorem dX7_walks_219 : decode cX7_walks 219 = .ok (.aload_n 0, 1) := by decide +kernel
theorem dX7_walks_220 : decode cX7_walks 220 = .ok (.aload_n 0, 1) := by decide +kernel
theorem dX7_walks_221 : decode cX7_walks 221 = .ok (.getfield 13, 3) := by decide +kernel
theorem dX7_walks_224 : decode cX7_walks 224 = .ok (.iload 8, 2) := by decide +kernel
theorem dX7_walks_226 : decode cX7_walks 226 = .ok (.iconst 1, 1) := by decide +kernel
theorem dX7_walks_227 : decode cX7_walks 227 = .ok (.iadd, 1) := by decide +kernel
theorem dX7_walks_228 : decode cX7_walks 228 = .ok (.iaload, 1) := by decide +kernel
theorem dX7_walks_229 : decode cX7_walks 229 = .ok (.aload_n 0, 1) := by decide +kernel
theorem dX7_walks_230 : decode cX7_walks 230 = .ok (.getfield 13, 3) := by decide +kernel
theorem dX7_walks_233 : decode cX7_walks 233 = .ok (.iload 8, 2) := by decide +kernel
theorem dX7_walks_235 : decode cX7_walks 235 = .ok (.iconst 2, 1) := by decide +kernel
theorem dX7_walks_236 : decode cX7_walks 236 = .ok (.iadd, 1) := by decide +kernel
theorem dX7_walks_237 : decode cX7_walks 237 = .ok (.iaload, 1) := by decide +kernel
theorem dX7_walks_238 : decode cX7_walks 238 = .ok (.iload 9, 2) := by decide +kernel
theorem dX7_walks_240 : decode cX7_walks 240 = .ok (.iconst 1, 1) := by decide +kernel
theorem dX7_walks_241 : decode cX7_walks 241 = .ok (.iadd, 1) := by decide +kernel
theorem dX7_walks_242 : decode cX7_walks 242 = .ok (.iload_n 3, 1) := by decide +kernel
theorem dX7_walks_243 : decode cX7_walks 243 = .ok (.invokevirtual 89, 3) := by decide +kernel
theorem dX7_walks_246 : decode cX7_walks 246 = .ok (.ifCond .ne 9, 3) := by decide +kernel
theorem dX7_walks_249 : decode cX7_walks 249 = .ok (.iinc 9 1, 3) := by decide +kernel
theorem dX7_walks_252 : decode cX7_walks 252 = .ok (.goto (-50), 3) := by decide +kernel
theorem dX7_walks_255 : decode cX7_walks 255 = .ok (.aload_n 0, 1) := by decide +kernel
theorem dX7_walks_256 : decode cX7_walks 256 = .ok (.aload_n 0, 1) := by decide +kernel
theorem dX7_walks_257 : decode cX7_walks 257 = .ok (.getfield 13, 3) := by decide +kernel
theorem dX7_walks_260 : decode cX7_walks 260 = .ok (.iload 8, 2) := by decide +kernel
theorem dX7_walks_262 : decode cX7_walks 262 = .ok (.iconst 1, 1) := by decide +kernel
theorem dX7_walks_263 : decode cX7_walks 263 = .ok (.iadd, 1) := by decide +kernel
theorem dX7_walks_264 : decode cX7_walks 264 = .ok (.iaload, 1) := by decide +kernel
theorem dX7_walks_265 : decode cX7_walks 265 = .ok (.aload_n 0, 1) := by decide +kernel
theorem dX7_walks_266 : decode cX7_walks 266 = .ok (.getfield 13, 3) := by decide +kernel
theorem dX7_walks_269 : decode cX7_walks 269 = .ok (.iload 8, 2) := by decide +kernel
theorem dX7_walks_271 : decode cX7_walks 271 = .ok (.iconst 2, 1) := by decide +kernel
theorem dX7_walks_272 : decode cX7_walks 272 = .ok (.iadd, 1) := by decide +kernel
theorem dX7_walks_273 : decode cX7_walks 273 = .ok (.iaload, 1) := by decide +kernel
theorem dX7_walks_274 : decode cX7_walks 274 = .ok (.iload 9, 2) := by decide +kernel
theorem dX7_walks_276 : decode cX7_walks 276 = .ok (.iconst 1, 1) := by decide +kernel
theorem dX7_walks_277 : decode cX7_walks 277 = .ok (.iadd, 1) := by decide +kernel
theorem dX7_walks_278 : decode cX7_walks 278 = .ok (.iload_n 3, 1) := by decide +kernel
theorem dX7_walks_279 : decode cX7_walks 279 = .ok (.invokevirtual 124, 3) := by decide +kernel
theorem dX7_walks_282 : decode cX7_walks 282 = .ok (.istore 10, 2) := by decide +kernel
theorem dX7_walks_284 : decode cX7_walks 284 = .ok (.aload_n 0, 1) := by decide +kernel
theorem dX7_walks_285 : decode cX7_walks 285 = .ok (.aload_n 0, 1) := by decide +kernel
theorem dX7_walks_286 : decode cX7_walks 286 = .ok (.getfield 13, 3) := by decide +kernel
theorem dX7_walks_289 : decode cX7_walks 289 = .ok (.iload 8, 2) := by decide +kernel
theorem dX7_walks_291 : decode cX7_walks 291 = .ok (.iaload, 1) := by decide +kernel
theorem dX7_walks_292 : decode cX7_walks 292 = .ok (.iload_n 2, 1) := by decide +kernel
theorem dX7_walks_293 : decode cX7_walks 293 = .ok (.iload 9, 2) := by decide +kernel
theorem dX7_walks_295 : decode cX7_walks 295 = .ok (.iload 4, 2) := by decide +kernel
theorem dX7_walks_297 : decode cX7_walks 297 = .ok (.iconst 1, 1) := by decide +kernel
theorem dX7_walks_298 : decode cX7_walks 298 = .ok (.iadd, 1) := by decide +kernel
theorem dX7_walks_299 : decode cX7_walks 299 = .ok (.iload 7, 2) := by decide +kernel
theorem dX7_walks_301 : decode cX7_walks 301 = .ok (.invokevirtual 121, 3) := by decide +kernel
theorem dX7_walks_304 : decode cX7_walks 304 = .ok (.aload_n 0, 1) := by decide +kernel
theorem dX7_walks_305 : decode cX7_walks 305 = .ok (.iload 6, 2) := by decide +kernel
theorem dX7_walks_307 : decode cX7_walks 307 = .ok (.invokevirtual 127, 3) := by decide +kernel
theorem dX7_walks_310 : decode cX7_walks 310 = .ok (.aload_n 0, 1) := by decide +kernel
theorem dX7_walks_311 : decode cX7_walks 311 = .ok (.aload_n 0, 1) := by decide +kernel
theorem dX7_walks_312 : decode cX7_walks 312 = .ok (.getfield 13, 3) := by decide +kernel
theorem dX7_walks_315 : decode cX7_walks 315 = .ok (.iload 8, 2) := by decide +kernel
theorem dX7_walks_317 : decode cX7_walks 317 = .ok (.iconst 1, 1) := by decide +kernel
theorem dX7_walks_318 : decode cX7_walks 318 = .ok (.iadd, 1) := by decide +kernel
theorem dX7_walks_319 : decode cX7_walks 319 = .ok (.iaload, 1) := by decide +kernel
theorem dX7_walks_320 : decode cX7_walks 320 = .ok (.iload 9, 2) := by decide +kernel
theorem dX7_walks_322 : decode cX7_walks 322 = .ok (.iconst 1, 1) := by decide +kernel
theorem dX7_walks_323 : decode cX7_walks 323 = .ok (.iadd, 1) := by decide +kernel
theorem dX7_walks_324 : decode cX7_walks 324 = .ok (.iload 10, 2) := by decide +kernel
theorem dX7_walks_326 : decode cX7_walks 326 = .ok (.iload 4, 2) := by decide +kernel
theorem dX7_walks_328 : decode cX7_walks 328 = .ok (.iconst 1, 1) := by decide +kernel
theorem dX7_walks_329 : decode cX7_walks 329 = .ok (.iadd, 1) := by decide +kernel
theorem dX7_walks_330 : decode cX7_walks 330 = .ok (.iload 7, 2) := by decide +kernel
theorem dX7_walks_332 : decode cX7_walks 332 = .ok (.invokevirtual 121, 3) := by decide +kernel
theorem dX7_walks_335 : decode cX7_walks 335 = .ok (.aload_n 0, 1) := by decide +kernel
theorem dX7_walks_336 : decode cX7_walks 336 = .ok (.iload 6, 2) := by decide +kernel
theorem dX7_walks_338 : decode cX7_walks 338 = .ok (.invokevirtual 127, 3) := by decide +kernel
theorem dX7_walks_341 : decode cX7_walks 341 = .ok (.aload_n 0, 1) := by decide +kernel
theorem dX7_walks_342 : decode cX7_walks 342 = .ok (.aload_n 0, 1) := by decide +kernel
theorem dX7_walks_343 : decode cX7_walks 343 = .ok (.getfield 13, 3) := by decide +kernel
theorem dX7_walks_346 : decode cX7_walks 346 = .ok (.iload 8, 2) := by decide +kernel
theorem dX7_walks_348 : decode cX7_walks 348 = .ok (.iconst 2, 1) := by decide +kernel
theorem dX7_walks_349 : decode cX7_walks 349 = .ok (.iadd, 1) := by decide +kernel
theorem dX7_walks_350 : decode cX7_walks 350 = .ok (.iaload, 1) := by decide +kernel
theorem dX7_walks_351 : decode cX7_walks 351 = .ok (.iload 10, 2) := by decide +kernel
theorem dX7_walks_353 : decode cX7_walks 353 = .ok (.iconst 1, 1) := by decide +kernel
theorem dX7_walks_354 : decode cX7_walks 354 = .ok (.iadd, 1) := by decide +kernel
theorem dX7_walks_355 : decode cX7_walks 355 = .ok (.iload_n 3, 1) := by decide +kernel
theorem dX7_walks_356 : decode cX7_walks 356 = .ok (.iload 4, 2) := by decide +kernel
theorem dX7_walks_358 : decode cX7_walks 358 = .ok (.iconst 1, 1) := by decide +kernel
theorem dX7_walks_359 : decode cX7_walks 359 = .ok (.iadd, 1) := by decide +kernel
theorem dX7_walks_360 : decode cX7_walks 360 = .ok (.iload 7, 2) := by decide +kernel
theorem dX7_walks_362 : decode cX7_walks 362 = .ok (.invokevirtual 121, 3) := by decide +kernel
theorem dX7_walks_365 : decode cX7_walks 365 = .ok (.return_, 1) := by decide +kernel
theorem dX7_walksText_0 : decode cX7_walksText 0 = .ok (.aload_n 0, 1) := by decide +kernel
theorem dX7_walksText_1 : decode cX7_walksText 1 = .ok (.iload_n 1, 1) := by decide +kernel
theorem dX7_walksText_2 : decode cX7_walksText 2 = .ok (.invokevirtual 131, 3) := by decide +kernel
theorem dX7_walksText_5 : decode cX7_walksText 5 = .ok (.istore_n 2, 1) := by decide +kernel
theorem dX7_walksText_6 : decode cX7_walksText 6 = .ok (.aload_n 0, 1) := by decide +kernel
theorem dX7_walksText_7 : decode cX7_walksText 7 = .ok (.iconst 0, 1) := by decide +kernel
theorem dX7_walksText_8 : decode cX7_walksText 8 = .ok (.putfield 115, 3) := by decide +kernel
theorem dX7_walksText_11 : decode cX7_walksText 11 = .ok (.aload_n 0, 1) := by decide +kernel
theorem dX7_walksText_12 : decode cX7_walksText 12 = .ok (.iconst 0, 1) := by decide +kernel
theorem dX7_walksText_13 : decode cX7_walksText 13 = .ok (.putfield 109, 3) := by decide +kernel
theorem dX7_walksText_16 : decode cX7_walksText 16 = .ok (.aload_n 0, 1) := by decide +kernel
theorem dX7_walksText_17 : decode cX7_walksText 17 = .ok (.iconst 0, 1) := by decide +kernel
theorem dX7_walksText_18 : decode cX7_walksText 18 = .ok (.putfield 118, 3) := by decide +kernel
theorem dX7_walksText_21 : decode cX7_walksText 21 = .ok (.iconst 0, 1) := by decide +kernel
theorem dX7_walksText_22 : decode cX7_walksText 22 = .ok (.istore_n 3, 1) := by decide +kernel
theorem dX7_walksText_23 : decode cX7_walksText 23 = .ok (.iload_n 3, 1) := by decide +kernel
theorem dX7_walksText_24 : decode cX7_walksText 24 = .ok (.bipush 10, 2) := by decide +kernel
theorem dX7_walksText_26 : decode cX7_walksText 26 = .ok (.if_icmp .ge 16, 3) := by decide +kernel
theorem dX7_walksText_29 : decode cX7_walksText 29 = .ok (.aload_n 0, 1) := by decide +kernel
theorem dX7_walksText_30 : decode cX7_walksText 30 = .ok (.getfield 53, 3) := by decide +kernel
theorem dX7_walksText_33 : decode cX7_walksText 33 = .ok (.iload_n 3, 1) := by decide +kernel
theorem dX7_walksText_34 : decode cX7_walksText 34 = .ok (.iconst 0, 1) := by decide +kernel
theorem dX7_walksText_35 : decode cX7_walksText 35 = .ok (.iastore, 1) := by decide +kernel
theorem dX7_walksText_36 : decode cX7_walksText 36 = .ok (.iinc 3 1, 3) := by decide +kernel
theorem dX7_walksText_39 : decode cX7_walksText 39 = .ok (.goto (-16), 3) := by decide +kernel
theorem dX7_walksText_42 : decode cX7_walksText 42 = .ok (.iload_n 2, 1) := by decide +kernel
theorem dX7_walksText_43 : decode cX7_walksText 43 = .ok (.ifCond .le 18, 3) := by decide +kernel
theorem dX7_walksText_46 : decode cX7_walksText 46 = .ok (.aload_n 0, 1) := by decide +kernel
theorem dX7_walksText_47 : decode cX7_walksText 47 = .ok (.bipush 10, 2) := by decide +kernel
theorem dX7_walksText_49 : decode cX7_walksText 49 = .ok (.iconst 0, 1) := by decide +kernel
theorem dX7_walksText_50 : decode cX7_walksText 50 = .ok (.aload_n 0, 1) := by decide +kernel
theorem dX7_walksText_51 : decode cX7_walksText 51 = .ok (.getfield 93, 3) := by decide +kernel
theorem dX7_walksText_54 : decode cX7_walksText 54 = .ok (.iconst 1, 1) := by decide +kernel
theorem dX7_walksText_55 : decode cX7_walksText 55 = .ok (.isub, 1) := by decide +kernel
theorem dX7_walksText_56 : decode cX7_walksText 56 = .ok (.iconst 1, 1) := by decide +kernel
theorem dX7_walksText_57 : decode cX7_walksText 57 = .ok (.iconst 0, 1) := by decide +kernel
theorem dX7_walksText_58 : decode cX7_walksText 58 = .ok (.invokevirtual 105, 3) := by decide +kernel
theorem dX7_walksText_61 : decode cX7_walksText 61 = .ok (.iload_n 2, 1) := by decide +kernel
theorem dX7_walksText_62 : decode cX7_walksText 62 = .ok (.ireturn, 1) := by decide +kernel
theorem dX7_touched_0 : decode cX7_touched 0 = .ok (.iconst 0, 1) := by decide +kernel
theorem dX7_touched_1 : decode cX7_touched 1 = .ok (.istore_n 2, 1) := by decide +kernel
theorem dX7_touched_2 : decode cX7_touched 2 = .ok (.iconst 0, 1) := by decide +kernel
theorem dX7_touched_3 : decode cX7_touched 3 = .ok (.istore_n 3, 1) := by decide +kernel
theorem dX7_touched_4 : decode cX7_touched 4 = .ok (.iload_n 3, 1) := by decide +kernel
theorem dX7_touched_5 : decode cX7_touched 5 = .ok (.aload_n 0, 1) := by decide +kernel
theorem dX7_touched_6 : decode cX7_touched 6 = .ok (.getfield 134, 3) := by decide +kernel
theorem dX7_touched_9 : decode cX7_touched 9 = .ok (.if_icmp .ge 167, 3) := by decide +kernel
theorem dX7_touched_12 : decode cX7_touched 12 = .ok (.iconst 1, 1) := by decide +kernel
theorem dX7_touched_13 : decode cX7_touched 13 = .ok (.istore 4, 2) := by decide +kernel
theorem dX7_touched_15 : decode cX7_touched 15 = .ok (.iconst 0, 1) := by decide +kernel
theorem dX7_touched_16 : decode cX7_touched 16 = .ok (.istore 5, 2) := by decide +kernel
theorem dX7_touched_18 : decode cX7_touched 18 = .ok (.iload 5, 2) := by decide +kernel
theorem dX7_touched_20 : decode cX7_touched 20 = .ok (.aload_n 0, 1) := by decide +kernel
theorem dX7_touched_21 : decode cX7_touched 21 = .ok (.getfield 16, 3) := by decide +kernel
theorem dX7_touched_24 : decode cX7_touched 24 = .ok (.iload_n 1, 1) := by decide +kernel
theorem dX7_touched_25 : decode cX7_touched 25 = .ok (.iaload, 1) := by decide +kernel
theorem dX7_touched_26 : decode cX7_touched 26 = .ok (.if_icmp .ge 95, 3) := by decide +kernel
theorem dX7_touched_29 : decode cX7_touched 29 = .ok (.aload_n 0, 1) := by decide +kernel
theorem dX7_touched_30 : decode cX7_touched 30 = .ok (.getfield 13, 3) := by decide +kernel
theorem dX7_touched_33 : decode cX7_touched 33 = .ok (.iconst 3, 1) := by decide +kernel
theorem dX7_touched_34 : decode cX7_touched 34 = .ok (.iload_n 1, 1) := by decide +kernel
theorem dX7_touched_35 : decode cX7_touched 35 = .ok (.imul, 1) := by decide +kernel
theorem dX7_touched_36 : decode cX7_touched 36 = .ok (.iload 5, 2) := by decide +kernel
theorem dX7_touched_38 : decode cX7_touched 38 = .ok (.iadd, 1) := by decide +kernel
theorem dX7_touched_39 : decode cX7_touched 39 = .ok (.iaload, 1) := by decide +kernel
theorem dX7_touched_40 : decode cX7_touched 40 = .ok (.istore 6, 2) := by decide +kernel
theorem dX7_touched_42 : decode cX7_touched 42 = .ok (.iload 6, 2) := by decide +kernel
theorem dX7_touched_44 : decode cX7_touched 44 = .ok (.invokestatic 74, 3) := by decide +kernel
theorem dX7_touched_47 : decode cX7_touched 47 = .ok (.istore 7, 2) := by decide +kernel
theorem dX7_touched_49 : decode cX7_touched 49 = .ok (.iconst 0, 1) := by decide +kernel
theorem dX7_touched_50 : decode cX7_touched 50 = .ok (.istore 8, 2) := by decide +kernel
theorem dX7_touched_52 : decode cX7_touched 52 = .ok (.iload 8, 2) := by decide +kernel
theorem dX7_touched_54 : decode cX7_touched 54 = .ok (.aload_n 0, 1) := by decide +kernel
theorem dX7_touched_55 : decode cX7_touched 55 = .ok (.getfield 35, 3) := by decide +kernel
theorem dX7_touched_58 : decode cX7_touched 58 = .ok (.iload_n 3, 1) := by decide +kernel
theorem dX7_touched_59 : decode cX7_touched 59 = .ok (.iaload, 1) := by decide +kernel
theorem dX7_touched_60 : decode cX7_touched 60 = .ok (.if_icmp .ge 38, 3) := by decide +kernel
theorem dX7_touched_63 : decode cX7_touched 63 = .ok (.iload 7, 2) := by decide +kernel
theorem dX7_touched_65 : decode cX7_touched 65 = .ok (.ifCond .ne 20, 3) := by decide +kernel
theorem dX7_touched_68 : decode cX7_touched 68 = .ok (.aload_n 0, 1) := by decide +kernel
theorem dX7_touched_69 : decode cX7_touched 69 = .ok (.getfield 32, 3) := by decide +kernel
theorem dX7_touched_72 : decode cX7_touched 72 = .ok (.bipush 10, 2) := by decide +kernel
theorem dX7_touched_74 : decode cX7_touched 74 = .ok (.iload_n 3, 1) := by decide +kernel
theorem dX7_touched_75 : decode cX7_touched 75 = .ok (.imul, 1) := by decide +kernel
theorem dX7_touched_76 : decode cX7_touched 76 = .ok (.iload 8, 2) := by decide +kernel
theorem dX7_touched_78 : decode cX7_touched 78 = .ok (.iadd, 1) := by decide +kernel
theorem dX7_touched_79 : decode cX7_touched 79 = .ok (.iaload, 1) := by decide +kernel
theorem dX7_touched_80 : decode cX7_touched 80 = .ok (.iload 6, 2) := by decide +kernel
theorem dX7_touched_82 : decode cX7_touched 82 = .ok (.if_icmp .ne 7, 3) := by decide +kernel
theorem dX7_touched_85 : decode cX7_touched 85 = .ok (.iconst 1, 1) := by decide +kernel
theorem dX7_touched_86 : decode cX7_touched 86 = .ok (.goto 4, 3) := by decide +kernel
theorem dX7_touched_89 : decode cX7_touched 89 = .ok (.iconst 0, 1) := by decide +kernel
theorem dX7_touched_90 : decode cX7_touched 90 = .ok (.istore 7, 2) := by decide +kernel
theorem dX7_touched_92 : decode cX7_touched 92 = .ok (.iinc 8 1, 3) := by decide +kernel
theorem dX7_touched_95 : decode cX7_touched 95 = .ok (.goto (-43), 3) := by decide +kernel
theorem dX7_touched_98 : decode cX7_touched 98 = .ok (.iload 4, 2) := by decide +kernel
theorem dX7_touched_100 : decode cX7_touched 100 = .ok (.ifCond .eq 12, 3) := by decide +kernel
theorem dX7_touched_103 : decode cX7_touched 103 = .ok (.iload 7, 2) := by decide +kernel
theorem dX7_touched_105 : decode cX7_touched 105 = .ok (.ifCond .eq 7, 3) := by decide +kernel
theorem dX7_touched_108 : decode cX7_touched 108 = .ok (.iconst 1, 1) := by decide +kernel
theorem dX7_touched_109 : decode cX7_touched 109 = .ok (.goto 4, 3) := by decide +kernel
theorem dX7_touched_112 : decode cX7_touched 112 = .ok (.iconst 0, 1) := by decide +kernel
theorem dX7_touched_113 : decode cX7_touched 113 = .ok (.istore 4, 2) := by decide +kernel
theorem dX7_touched_115 : decode cX7_touched 115 = .ok (.iinc 5 1, 3) := by decide +kernel
theorem dX7_touched_118 : decode cX7_touched 118 = .ok (.goto (-100), 3) := by decide +kernel
theorem dX7_touched_121 : decode cX7_touched 121 = .ok (.iload_n 2, 1) := by decide +kernel
theorem dX7_touched_122 : decode cX7_touched 122 = .ok (.iload 4, 2) := by decide +kernel
theorem dX7_touched_124 : decode cX7_touched 124 = .ok (.ifCond .eq 7, 3) := by decide +kernel
theorem dX7_touched_127 : decode cX7_touched 127 = .ok (.iconst 1, 1) := by decide +kernel
theorem dX7_touched_128 : decode cX7_touched 128 = .ok (.goto 4, 3) := by decide +kernel
theorem dX7_touched_131 : decode cX7_touched 131 = .ok (.iconst 0, 1) := by decide +kernel
theorem dX7_touched_132 : decode cX7_touched 132 = .ok (.iadd, 1) := by decide +kernel
theorem dX7_touched_133 : decode cX7_touched 133 = .ok (.istore_n 2, 1) := by decide +kernel
theorem dX7_touched_134 : decode cX7_touched 134 = .ok (.aload_n 0, 1) := by decide +kernel
theorem dX7_touched_135 : decode cX7_touched 135 = .ok (.dup, 1) := by decide +kernel
theorem dX7_touched_136 : decode cX7_touched 136 = .ok (.getfield 137, 3) := by decide +kernel
theorem dX7_touched_139 : decode cX7_touched 139 = .ok (.iload 4, 2) := by decide +kernel
theorem dX7_touched_141 : decode cX7_touched 141 = .ok (.ifCond .eq 24, 3) := by decide +kernel
theorem dX7_touched_144 : decode cX7_touched 144 = .ok (.aload_n 0, 1) := by decide +kernel
theorem dX7_touched_145 : decode cX7_touched 145 = .ok (.getfield 35, 3) := by decide +kernel
theorem dX7_touched_148 : decode cX7_touched 148 = .ok (.iload_n 3, 1) := by decide +kernel
theorem dX7_touched_149 : decode cX7_touched 149 = .ok (.iaload, 1) := by decide +kernel
theorem dX7_touched_150 : decode cX7_touched 150 = .ok (.aload_n 0, 1) := by decide +kernel
theorem dX7_touched_151 : decode cX7_touched 151 = .ok (.getfield 35, 3) := by decide +kernel
theorem dX7_touched_154 : decode cX7_touched 154 = .ok (.iload_n 3, 1) := by decide +kernel
theorem dX7_touched_155 : decode cX7_touched 155 = .ok (.iaload, 1) := by decide +kernel
theorem dX7_touched_156 : decode cX7_touched 156 = .ok (.iconst 1, 1) := by decide +kernel
theorem dX7_touched_157 : decode cX7_touched 157 = .ok (.iadd, 1) := by decide +kernel
theorem dX7_touched_158 : decode cX7_touched 158 = .ok (.imul, 1) := by decide +kernel
theorem dX7_touched_159 : decode cX7_touched 159 = .ok (.iconst 2, 1) := by decide +kernel
theorem dX7_touched_160 : decode cX7_touched 160 = .ok (.idiv, 1) := by decide +kernel
theorem dX7_touched_161 : decode cX7_touched 161 = .ok (.i2l, 1) := by decide +kernel
theorem dX7_touched_162 : decode cX7_touched 162 = .ok (.goto 4, 3) := by decide +kernel
theorem dX7_touched_165 : decode cX7_touched 165 = .ok (.lconst 0, 1) := by decide +kernel
theorem dX7_touched_166 : decode cX7_touched 166 = .ok (.ladd, 1) := by decide +kernel
theorem dX7_touched_167 : decode cX7_touched 167 = .ok (.putfield 137, 3) := by decide +kernel
theorem dX7_touched_170 : decode cX7_touched 170 = .ok (.iinc 3 1, 3) := by decide +kernel
theorem dX7_touched_173 : decode cX7_touched 173 = .ok (.goto (-169), 3) := by decide +kernel
theorem dX7_touched_176 : decode cX7_touched 176 = .ok (.iload_n 2, 1) := by decide +kernel
theorem dX7_touched_177 : decode cX7_touched 177 = .ok (.ireturn, 1) := by decide +kernel
theorem dX7_addRule_0 : decode cX7_addRule 0 = .ok (.iload_n 1, 1) := by decide +kernel
theorem dX7_addRule_1 : decode cX7_addRule 1 = .ok (.invokestatic 74, 3) := by decide +kernel
theorem dX7_addRule_4 : decode cX7_addRule 4 = .ok (.ifCond .eq 40, 3) := by decide +kernel
theorem dX7_addRule_7 : decode cX7_addRule 7 = .ok (.iload_n 2, 1) := by decide +kernel
theorem dX7_addRule_8 : decode cX7_addRule 8 = .ok (.invokestatic 141, 3) := by decide +kernel
theorem dX7_addRule_11 : decode cX7_addRule 11 = .ok (.ifCond .eq 33, 3) := by decide +kernel
theorem dX7_addRule_14 : decode cX7_addRule 14 = .ok (.iload_n 3, 1) := by decide +kernel
theorem dX7_addRule_15 : decode cX7_addRule 15 = .ok (.iconst (-1), 1) := by decide +kernel
theorem dX7_addRule_16 : decode cX7_addRule 16 = .ok (.if_icmp .eq 10, 3) := by decide +kernel
theorem dX7_addRule_19 : decode cX7_addRule 19 = .ok (.iload_n 3, 1) := by decide +kernel
theorem dX7_addRule_20 : decode cX7_addRule 20 = .ok (.invokestatic 141, 3) := by decide +kernel
theorem dX7_addRule_23 : decode cX7_addRule 23 = .ok (.ifCond .eq 21, 3) := by decide +kernel
theorem dX7_addRule_26 : decode cX7_addRule 26 = .ok (.iload 4, 2) := by decide +kernel
theorem dX7_addRule_28 : decode cX7_addRule 28 = .ok (.iconst (-1), 1) := by decide +kernel
theorem dX7_addRule_29 : decode cX7_addRule 29 = .ok (.if_icmp .eq 11, 3) := by decide +kernel
theorem dX7_addRule_32 : decode cX7_addRule 32 = .ok (.iload 4, 2) := by decide +kernel
theorem dX7_addRule_34 : decode cX7_addRule 34 = .ok (.invokestatic 141, 3) := by decide +kernel
theorem dX7_addRule_37 : decode cX7_addRule 37 = .ok (.ifCond .eq 7, 3) := by decide +kernel
theorem dX7_addRule_40 : decode cX7_addRule 40 = .ok (.iconst 1, 1) := by decide +kernel
theorem dX7_addRule_41 : decode cX7_addRule 41 = .ok (.goto 4, 3) := by decide +kernel
theorem dX7_addRule_44 : decode cX7_addRule 44 = .ok (.iconst 0, 1) := by decide +kernel
theorem dX7_addRule_45 : decode cX7_addRule 45 = .ok (.istore 5, 2) := by decide +kernel
theorem dX7_addRule_47 : decode cX7_addRule 47 = .ok (.iload 5, 2) := by decide +kernel
theorem dX7_addRule_49 : decode cX7_addRule 49 = .ok (.ifCond .eq 35, 3) := by decide +kernel
theorem dX7_addRule_52 : decode cX7_addRule 52 = .ok (.iload_n 3, 1) := by decide +kernel
theorem dX7_addRule_53 : decode cX7_addRule 53 = .ok (.iconst (-1), 1) := by decide +kernel
theorem dX7_addRule_54 : decode cX7_addRule 54 = .ok (.if_icmp .ne 9, 3) := by decide +kernel
theorem dX7_addRule_57 : decode cX7_addRule 57 = .ok (.iload 4, 2) := by decide +kernel
theorem dX7_addRule_59 : decode cX7_addRule 59 = .ok (.iconst (-1), 1) := by decide +kernel
theorem dX7_addRule_60 : decode cX7_addRule 60 = .ok (.if_icmp .ne 24, 3) := by decide +kernel
theorem dX7_addRule_63 : decode cX7_addRule 63 = .ok (.iload_n 3, 1) := by decide +kernel
theorem dX7_addRule_64 : decode cX7_addRule 64 = .ok (.iconst (-1), 1) := by decide +kernel
theorem dX7_addRule_65 : decode cX7_addRule 65 = .ok (.if_icmp .ne 15, 3) := by decide +kernel
theorem dX7_addRule_68 : decode cX7_addRule 68 = .ok (.iload_n 2, 1) := by decide +kernel
theorem dX7_addRule_69 : decode cX7_addRule 69 = .ok (.invokestatic 78, 3) := by decide +kernel
theorem dX7_addRule_72 : decode cX7_addRule 72 = .ok (.ifCond .ne 8, 3) := by decide +kernel
theorem dX7_addRule_75 : decode cX7_addRule 75 = .ok (.iload_n 2, 1) := by decide +kernel
theorem dX7_addRule_76 : decode cX7_addRule 76 = .ok (.iload_n 1, 1) := by decide +kernel
theorem dX7_addRule_77 : decode cX7_addRule 77 = .ok (.if_icmp .le 7, 3) := by decide +kernel
theorem dX7_addRule_80 : decode cX7_addRule 80 = .ok (.iconst 1, 1) := by decide +kernel
theorem dX7_addRule_81 : decode cX7_addRule 81 = .ok (.goto 4, 3) := by decide +kernel
theorem dX7_addRule_84 : decode cX7_addRule 84 = .ok (.iconst 0, 1) := by decide +kernel
theorem dX7_addRule_85 : decode cX7_addRule 85 = .ok (.istore 5, 2) := by decide +kernel
theorem dX7_addRule_87 : decode cX7_addRule 87 = .ok (.aload_n 0, 1) := by decide +kernel
theorem dX7_addRule_88 : decode cX7_addRule 88 = .ok (.iload 5, 2) := by decide +kernel
theorem dX7_addRule_90 : decode cX7_addRule 90 = .ok (.ifCond .ne 7, 3) := by decide +kernel
theorem dX7_addRule_93 : decode cX7_addRule 93 = .ok (.iconst 1, 1) := by decide +kernel
theorem dX7_addRule_94 : decode cX7_addRule 94 = .ok (.goto 17, 3) := by decide +kernel
theorem dX7_addRule_97 : decode cX7_addRule 97 = .ok (.aload_n 0, 1) := by decide +kernel
theorem dX7_addRule_98 : decode cX7_addRule 98 = .ok (.getfield 96, 3) := by decide +kernel
theorem dX7_addRule_101 : decode cX7_addRule 101 = .ok (.bipush 12, 2) := by decide +kernel
theorem dX7_addRule_103 : decode cX7_addRule 103 = .ok (.if_icmp .ne 7, 3) := by decide +kernel
theorem dX7_addRule_106 : decode cX7_addRule 106 = .ok (.iconst 2, 1) := by decide +kernel
theorem dX7_addRule_107 : decode cX7_addRule 107 = .ok (.goto 4, 3) := by decide +kernel
theorem dX7_addRule_110 : decode cX7_addRule 110 = .ok (.iconst 0, 1) := by decide +kernel
theorem dX7_addRule_111 : decode cX7_addRule 111 = .ok (.putfield 60, 3) := by decide +kernel
theorem dX7_addRule_114 : decode cX7_addRule 114 = .ok (.aload_n 0, 1) := by decide +kernel
theorem dX7_addRule_115 : decode cX7_addRule 115 = .ok (.getfield 60, 3) := by decide +kernel
theorem dX7_addRule_118 : decode cX7_addRule 118 = .ok (.ifCond .le 5, 3) := by decide +kernel
theorem dX7_addRule_121 : decode cX7_addRule 121 = .ok (.iconst (-1), 1) := by decide +kernel
theorem dX7_addRule_122 : decode cX7_addRule 122 = .ok (.ireturn, 1) := by decide +kernel
theorem dX7_addRule_123 : decode cX7_addRule 123 = .ok (.aload_n 0, 1) := by decide +kernel
theorem dX7_addRule_124 : decode cX7_addRule 124 = .ok (.getfield 7, 3) := by decide +kernel
theorem dX7_addRule_127 : decode cX7_addRule 127 = .ok (.aload_n 0, 1) := by decide +kernel
theorem dX7_addRule_128 : decode cX7_addRule 128 = .ok (.getfield 96, 3) := by decide +kernel
theorem dX7_addRule_131 : decode cX7_addRule 131 = .ok (.iload_n 1, 1) := by decide +kernel
theorem dX7_addRule_132 : decode cX7_addRule 132 = .ok (.iastore, 1) := by decide +kernel
theorem dX7_addRule_133 : decode cX7_addRule 133 = .ok (.aload_n 0, 1) := by decide +kernel
theorem dX7_addRule_134 : decode cX7_addRule 134 = .ok (.getfield 13, 3) := by decide +kernel
theorem dX7_addRule_137 : decode cX7_addRule 137 = .ok (.iconst 3, 1) := by decide +kernel
theorem dX7_addRule_138 : decode cX7_addRule 138 = .ok (.aload_n 0, 1) := by decide +kernel
theorem dX7_addRule_139 : decode cX7_addRule 139 = .ok (.getfield 96, 3) := by decide +kernel
theorem dX7_addRule_142 : decode cX7_addRule 142 = .ok (.imul, 1) := by decide +kernel
theorem dX7_addRule_143 : decode cX7_addRule 143 = .ok (.iload_n 2, 1) := by decide +kernel
theorem dX7_addRule_144 : decode cX7_addRule 144 = .ok (.iastore, 1) := by decide +kernel
theorem dX7_addRule_145 : decode cX7_addRule 145 = .ok (.aload_n 0, 1) := by decide +kernel
theorem dX7_addRule_146 : decode cX7_addRule 146 = .ok (.getfield 13, 3) := by decide +kernel
theorem dX7_addRule_149 : decode cX7_addRule 149 = .ok (.iconst 3, 1) := by decide +kernel
theorem dX7_addRule_150 : decode cX7_addRule 150 = .ok (.aload_n 0, 1) := by decide +kernel
theorem dX7_addRule_151 : decode cX7_addRule 151 = .ok (.getfield 96, 3) := by decide +kernel
theorem dX7_addRule_154 : decode cX7_addRule 154 = .ok (.imul, 1) := by decide +kernel
theorem dX7_addRule_155 : decode cX7_addRule 155 = .ok (.iconst 1, 1) := by decide +kernel
theorem dX7_addRule_156 : decode cX7_addRule 156 = .ok (.iadd, 1) := by decide +kernel
theorem dX7_addRule_157 : decode cX7_addRule 157 = .ok (.iload_n 3, 1) := by decide +kernel
theorem dX7_addRule_158 : decode cX7_addRule 158 = .ok (.iastore, 1) := by decide +kernel
theorem dX7_addRule_159 : decode cX7_addRule 159 = .ok (.aload_n 0, 1) := by decide +kernel
theorem dX7_addRule_160 : decode cX7_addRule 160 = .ok (.getfield 13, 3) := by decide +kernel
theorem dX7_addRule_163 : decode cX7_addRule 163 = .ok (.iconst 3, 1) := by decide +kernel
theorem dX7_addRule_164 : decode cX7_addRule 164 = .ok (.aload_n 0, 1) := by decide +kernel
theorem dX7_addRule_165 : decode cX7_addRule 165 = .ok (.getfield 96, 3) := by decide +kernel
theorem dX7_addRule_168 : decode cX7_addRule 168 = .ok (.imul, 1) := by decide +kernel
theorem dX7_addRule_169 : decode cX7_addRule 169 = .ok (.iconst 2, 1) := by decide +kernel
theorem dX7_addRule_170 : decode cX7_addRule 170 = .ok (.iadd, 1) := by decide +kernel
theorem dX7_addRule_171 : decode cX7_addRule 171 = .ok (.iload 4, 2) := by decide +kernel
theorem dX7_addRule_173 : decode cX7_addRule 173 = .ok (.iastore, 1) := by decide +kernel
theorem dX7_addRule_174 : decode cX7_addRule 174 = .ok (.aload_n 0, 1) := by decide +kernel
theorem dX7_addRule_175 : decode cX7_addRule 175 = .ok (.getfield 16, 3) := by decide +kernel
theorem dX7_addRule_178 : decode cX7_addRule 178 = .ok (.aload_n 0, 1) := by decide +kernel
theorem dX7_addRule_179 : decode cX7_addRule 179 = .ok (.getfield 96, 3) := by decide +kernel
theorem dX7_addRule_182 : decode cX7_addRule 182 = .ok (.iload_n 3, 1) := by decide +kernel
theorem dX7_addRule_183 : decode cX7_addRule 183 = .ok (.iconst (-1), 1) := by decide +kernel
theorem dX7_addRule_184 : decode cX7_addRule 184 = .ok (.if_icmp .ne 7, 3) := by decide +kernel
theorem dX7_addRule_187 : decode cX7_addRule 187 = .ok (.iconst 1, 1) := by decide +kernel
theorem dX7_addRule_188 : decode cX7_addRule 188 = .ok (.goto 14, 3) := by decide +kernel
theorem dX7_addRule_191 : decode cX7_addRule 191 = .ok (.iload 4, 2) := by decide +kernel
theorem dX7_addRule_193 : decode cX7_addRule 193 = .ok (.iconst (-1), 1) := by decide +kernel
theorem dX7_addRule_194 : decode cX7_addRule 194 = .ok (.if_icmp .ne 7, 3) := by decide +kernel
theorem dX7_addRule_197 : decode cX7_addRule 197 = .ok (.iconst 2, 1) := by decide +kernel
theorem dX7_addRule_198 : decode cX7_addRule 198 = .ok (.goto 4, 3) := by decide +kernel
theorem dX7_addRule_201 : decode cX7_addRule 201 = .ok (.iconst 3, 1) := by decide +kernel
theorem dX7_addRule_202 : decode cX7_addRule 202 = .ok (.iastore, 1) := by decide +kernel
theorem dX7_addRule_203 : decode cX7_addRule 203 = .ok (.aload_n 0, 1) := by decide +kernel
theorem dX7_addRule_204 : decode cX7_addRule 204 = .ok (.dup, 1) := by decide +kernel
theorem dX7_addRule_205 : decode cX7_addRule 205 = .ok (.getfield 96, 3) := by decide +kernel
theorem dX7_addRule_208 : decode cX7_addRule 208 = .ok (.iconst 1, 1) := by decide +kernel
theorem dX7_addRule_209 : decode cX7_addRule 209 = .ok (.iadd, 1) := by decide +kernel
theorem dX7_addRule_210 : decode cX7_addRule 210 = .ok (.putfield 96, 3) := by decide +kernel
theorem dX7_addRule_213 : decode cX7_addRule 213 = .ok (.aload_n 0, 1) := by decide +kernel
theorem dX7_addRule_214 : decode cX7_addRule 214 = .ok (.aload_n 0, 1) := by decide +kernel
theorem dX7_addRule_215 : decode cX7_addRule 215 = .ok (.getfield 96, 3) := by decide +kernel
theorem dX7_addRule_218 : decode cX7_addRule 218 = .ok (.iconst 1, 1) := by decide +kernel
theorem dX7_addRule_219 : decode cX7_addRule 219 = .ok (.isub, 1) := by decide +kernel
theorem dX7_addRule_220 : decode cX7_addRule 220 = .ok (.invokevirtual 144, 3) := by decide +kernel
theorem dX7_addRule_223 : decode cX7_addRule 223 = .ok (.pop, 1) := by decide +kernel
theorem dX7_addRule_224 : decode cX7_addRule 224 = .ok (.aload_n 0, 1) := by decide +kernel
theorem dX7_addRule_225 : decode cX7_addRule 225 = .ok (.getfield 96, 3) := by decide +kernel
theorem dX7_addRule_228 : decode cX7_addRule 228 = .ok (.iconst 1, 1) := by decide +kernel
theorem dX7_addRule_229 : decode cX7_addRule 229 = .ok (.isub, 1) := by decide +kernel
theorem dX7_addRule_230 : decode cX7_addRule 230 = .ok (.ireturn, 1) := by decide +kernel
theorem dX7_isRule_0 : decode cX7_isRule 0 = .ok (.iload_n 1, 1) := by decide +kernel
theorem dX7_isRule_1 : decode cX7_isRule 1 = .ok (.i2l, 1) := by decide +kernel
theorem dX7_isRule_2 : decode cX7_isRule 2 = .ok (.lconst 0, 1) := by decide +kernel
theorem dX7_isRule_3 : decode cX7_isRule 3 = .ok (.aload_n 0, 1) := by decide +kernel
theorem dX7_isRule_4 : decode cX7_isRule 4 = .ok (.getfield 96, 3) := by decide +kernel
theorem dX7_isRule_7 : decode cX7_isRule 7 = .ok (.iconst 1, 1) := by decide +kernel
theorem dX7_isRule_8 : decode cX7_isRule 8 = .ok (.isub, 1) := by decide +kernel
theorem dX7_isRule_9 : decode cX7_isRule 9 = .ok (.i2l, 1) := by decide +kernel
theorem dX7_isRule_10 : decode cX7_isRule 10 = .ok (.invokestatic 68, 3) := by decide +kernel
theorem dX7_isRule_13 : decode cX7_isRule 13 = .ok (.ifCond .eq 16, 3) := by decide +kernel
theorem dX7_isRule_16 : decode cX7_isRule 16 = .ok (.aload_n 0, 1) := by decide +kernel
theorem dX7_isRule_17 : decode cX7_isRule 17 = .ok (.getfield 28, 3) := by decide +kernel
theorem dX7_isRule_20 : decode cX7_isRule 20 = .ok (.iload_n 1, 1) := by decide +kernel
theorem dX7_isRule_21 : decode cX7_isRule 21 = .ok (.baload, 1) := by decide +kernel
theorem dX7_isRule_22 : decode cX7_isRule 22 = .ok (.ifCond .ne 7, 3) := by decide +kernel
theorem dX7_isRule_25 : decode cX7_isRule 25 = .ok (.iconst 1, 1) := by decide +kernel
theorem dX7_isRule_26 : decode cX7_isRule 26 = .ok (.goto 4, 3) := by decide +kernel
theorem dX7_isRule_29 : decode cX7_isRule 29 = .ok (.iconst 0, 1) := by decide +kernel
theorem dX7_isRule_30 : decode cX7_isRule 30 = .ok (.ireturn, 1) := by decide +kernel
theorem dX7_dropRule_0 : decode cX7_dropRule 0 = .ok (.aload_n 0, 1) := by decide +kernel
theorem dX7_dropRule_1 : decode cX7_dropRule 1 = .ok (.aload_n 0, 1) := by decide +kernel
theorem dX7_dropRule_2 : decode cX7_dropRule 2 = .ok (.iload_n 1, 1) := by decide +kernel
theorem dX7_dropRule_3 : decode cX7_dropRule 3 = .ok (.invokevirtual 147, 3) := by decide +kernel
theorem dX7_dropRule_6 : decode cX7_dropRule 6 = .ok (.ifCond .eq 7, 3) := by decide +kernel
theorem dX7_dropRule_9 : decode cX7_dropRule 9 = .ok (.iconst 0, 1) := by decide +kernel
theorem dX7_dropRule_10 : decode cX7_dropRule 10 = .ok (.goto 4, 3) := by decide +kernel
theorem dX7_dropRule_13 : decode cX7_dropRule 13 = .ok (.iconst 1, 1) := by decide +kernel
theorem dX7_dropRule_14 : decode cX7_dropRule 14 = .ok (.putfield 60, 3) := by decide +kernel
theorem dX7_dropRule_17 : decode cX7_dropRule 17 = .ok (.aload_n 0, 1) := by decide +kernel
theorem dX7_dropRule_18 : decode cX7_dropRule 18 = .ok (.getfield 60, 3) := by decide +kernel
theorem dX7_dropRule_21 : decode cX7_dropRule 21 = .ok (.ifCond .le 5, 3) := by decide +kernel
theorem dX7_dropRule_24 : decode cX7_dropRule 24 = .ok (.iconst (-1), 1) := by decide +kernel
theorem dX7_dropRule_25 : decode cX7_dropRule 25 = .ok (.ireturn, 1) := by decide +kernel
theorem dX7_dropRule_26 : decode cX7_dropRule 26 = .ok (.aload_n 0, 1) := by decide +kernel
theorem dX7_dropRule_27 : decode cX7_dropRule 27 = .ok (.getfield 28, 3) := by decide +kernel
theorem dX7_dropRule_30 : decode cX7_dropRule 30 = .ok (.iload_n 1, 1) := by decide +kernel
theorem dX7_dropRule_31 : decode cX7_dropRule 31 = .ok (.iconst 1, 1) := by decide +kernel
theorem dX7_dropRule_32 : decode cX7_dropRule 32 = .ok (.bastore, 1) := by decide +kernel
theorem dX7_dropRule_33 : decode cX7_dropRule 33 = .ok (.aload_n 0, 1) := by decide +kernel
theorem dX7_dropRule_34 : decode cX7_dropRule 34 = .ok (.iload_n 1, 1) := by decide +kernel
theorem dX7_dropRule_35 : decode cX7_dropRule 35 = .ok (.invokevirtual 144, 3) := by decide +kernel
theorem dX7_dropRule_38 : decode cX7_dropRule 38 = .ok (.ireturn, 1) := by decide +kernel
theorem dX7_setRank_0 : decode cX7_setRank 0 = .ok (.aload_n 0, 1) := by decide +kernel
theorem dX7_setRank_1 : decode cX7_setRank 1 = .ok (.aload_n 0, 1) := by decide +kernel
theorem dX7_setRank_2 : decode cX7_setRank 2 = .ok (.iload_n 1, 1) := by decide +kernel
theorem dX7_setRank_3 : decode cX7_setRank 3 = .ok (.invokevirtual 147, 3) := by decide +kernel
theorem dX7_setRank_6 : decode cX7_setRank 6 = .ok (.ifCond .ne 7, 3) := by decide +kernel
theorem dX7_setRank_9 : decode cX7_setRank 9 = .ok (.iconst 1, 1) := by decide +kernel
theorem dX7_setRank_10 : decode cX7_setRank 10 = .ok (.goto 20, 3) := by decide +kernel
theorem dX7_setRank_13 : decode cX7_setRank 13 = .ok (.iload_n 2, 1) := by decide +kernel
theorem dX7_setRank_14 : decode cX7_setRank 14 = .ok (.i2l, 1) := by decide +kernel
theorem dX7_setRank_15 : decode cX7_setRank 15 = .ok (.lconst 0, 1) := by decide +kernel
theorem dX7_setRank_16 : decode cX7_setRank 16 = .ok (.ldc2_w 150, 3) := by decide +kernel
theorem dX7_setRank_19 : decode cX7_setRank 19 = .ok (.invokestatic 68, 3) := by decide +kernel
theorem dX7_setRank_22 : decode cX7_setRank 22 = .ok (.ifCond .ne 7, 3) := by decide +kernel
theorem dX7_setRank_25 : decode cX7_setRank 25 = .ok (.iconst 2, 1) := by decide +kernel
theorem dX7_setRank_26 : decode cX7_setRank 26 = .ok (.goto 4, 3) := by decide +kernel
theorem dX7_setRank_29 : decode cX7_setRank 29 = .ok (.iconst 0, 1) := by decide +kernel
theorem dX7_setRank_30 : decode cX7_setRank 30 = .ok (.putfield 60, 3) := by decide +kernel
theorem dX7_setRank_33 : decode cX7_setRank 33 = .ok (.aload_n 0, 1) := by decide +kernel
theorem dX7_setRank_34 : decode cX7_setRank 34 = .ok (.getfield 60, 3) := by decide +kernel
theorem dX7_setRank_37 : decode cX7_setRank 37 = .ok (.ifCond .le 5, 3) := by decide +kernel
theorem dX7_setRank_40 : decode cX7_setRank 40 = .ok (.iconst (-1), 1) := by decide +kernel
theorem dX7_setRank_41 : decode cX7_setRank 41 = .ok (.ireturn, 1) := by decide +kernel
theorem dX7_setRank_42 : decode cX7_setRank 42 = .ok (.aload_n 0, 1) := by decide +kernel
theorem dX7_setRank_43 : decode cX7_setRank 43 = .ok (.getfield 19, 3) := by decide +kernel
theorem dX7_setRank_46 : decode cX7_setRank 46 = .ok (.iload_n 1, 1) := by decide +kernel
theorem dX7_setRank_47 : decode cX7_setRank 47 = .ok (.iaload, 1) := by decide +kernel
theorem dX7_setRank_48 : decode cX7_setRank 48 = .ok (.istore_n 3, 1) := by decide +kernel
theorem dX7_setRank_49 : decode cX7_setRank 49 = .ok (.aload_n 0, 1) := by decide +kernel
theorem dX7_setRank_50 : decode cX7_setRank 50 = .ok (.getfield 19, 3) := by decide +kernel
theorem dX7_setRank_53 : decode cX7_setRank 53 = .ok (.iload_n 1, 1) := by decide +kernel
theorem dX7_setRank_54 : decode cX7_setRank 54 = .ok (.iload_n 2, 1) := by decide +kernel
theorem dX7_setRank_55 : decode cX7_setRank 55 = .ok (.iastore, 1) := by decide +kernel
theorem dX7_setRank_56 : decode cX7_setRank 56 = .ok (.iload_n 3, 1) := by decide +kernel
theorem dX7_setRank_57 : decode cX7_setRank 57 = .ok (.ireturn, 1) := by decide +kernel
theorem dX7_setStyle_0 : decode cX7_setStyle 0 = .ok (.aload_n 0, 1) := by decide +kernel
theorem dX7_setStyle_1 : decode cX7_setStyle 1 = .ok (.aload_n 0, 1) := by decide +kernel
theorem dX7_setStyle_2 : decode cX7_setStyle 2 = .ok (.iload_n 1, 1) := by decide +kernel
theorem dX7_setStyle_3 : decode cX7_setStyle 3 = .ok (.invokevirtual 147, 3) := by decide +kernel
theorem dX7_setStyle_6 : decode cX7_setStyle 6 = .ok (.ifCond .ne 7, 3) := by decide +kernel
theorem dX7_setStyle_9 : decode cX7_setStyle 9 = .ok (.iconst 1, 1) := by decide +kernel
theorem dX7_setStyle_10 : decode cX7_setStyle 10 = .ok (.goto 32, 3) := by decide +kernel
theorem dX7_setStyle_13 : decode cX7_setStyle 13 = .ok (.iload_n 2, 1) := by decide +kernel
theorem dX7_setStyle_14 : decode cX7_setStyle 14 = .ok (.i2l, 1) := by decide +kernel
theorem dX7_setStyle_15 : decode cX7_setStyle 15 = .ok (.lconst 0, 1) := by decide +kernel
theorem dX7_setStyle_16 : decode cX7_setStyle 16 = .ok (.ldc2_w 150, 3) := by decide +kernel
theorem dX7_setStyle_19 : decode cX7_setStyle 19 = .ok (.invokestatic 68, 3) := by decide +kernel
theorem dX7_setStyle_22 : decode cX7_setStyle 22 = .ok (.ifCond .eq 15, 3) := by decide +kernel
theorem dX7_setStyle_25 : decode cX7_setStyle 25 = .ok (.iload_n 3, 1) := by decide +kernel
theorem dX7_setStyle_26 : decode cX7_setStyle 26 = .ok (.i2l, 1) := by decide +kernel
theorem dX7_setStyle_27 : decode cX7_setStyle 27 = .ok (.lconst 0, 1) := by decide +kernel
theorem dX7_setStyle_28 : decode cX7_setStyle 28 = .ok (.ldc2_w 152, 3) := by decide +kernel
theorem dX7_setStyle_31 : decode cX7_setStyle 31 = .ok (.invokestatic 68, 3) := by decide +kernel
theorem dX7_setStyle_34 : decode cX7_setStyle 34 = .ok (.ifCond .ne 7, 3) := by decide +kernel
theorem dX7_setStyle_37 : decode cX7_setStyle 37 = .ok (.iconst 2, 1) := by decide +kernel
theorem dX7_setStyle_38 : decode cX7_setStyle 38 = .ok (.goto 4, 3) := by decide +kernel
theorem dX7_setStyle_41 : decode cX7_setStyle 41 = .ok (.iconst 0, 1) := by decide +kernel
theorem dX7_setStyle_42 : decode cX7_setStyle 42 = .ok (.putfield 60, 3) := by decide +kernel
theorem dX7_setStyle_45 : decode cX7_setStyle 45 = .ok (.aload_n 0, 1) := by decide +kernel
theorem dX7_setStyle_46 : decode cX7_setStyle 46 = .ok (.getfield 60, 3) := by decide +kernel
theorem dX7_setStyle_49 : decode cX7_setStyle 49 = .ok (.ifCond .le 5, 3) := by decide +kernel
theorem dX7_setStyle_52 : decode cX7_setStyle 52 = .ok (.iconst (-1), 1) := by decide +kernel
theorem dX7_setStyle_53 : decode cX7_setStyle 53 = .ok (.ireturn, 1) := by decide +kernel
theorem dX7_setStyle_54 : decode cX7_setStyle 54 = .ok (.bipush 10, 2) := by decide +kernel
theorem dX7_setStyle_56 : decode cX7_setStyle 56 = .ok (.aload_n 0, 1) := by decide +kernel
theorem dX7_setStyle_57 : decode cX7_setStyle 57 = .ok (.getfield 22, 3) := by decide +kernel
theorem dX7_setStyle_60 : decode cX7_setStyle 60 = .ok (.iload_n 1, 1) := by decide +kernel
theorem dX7_setStyle_61 : decode cX7_setStyle 61 = .ok (.iaload, 1) := by decide +kernel
theorem dX7_setStyle_62 : decode cX7_setStyle 62 = .ok (.imul, 1) := by decide +kernel
theorem dX7_setStyle_63 : decode cX7_setStyle 63 = .ok (.aload_n 0, 1) := by decide +kernel
theorem dX7_setStyle_64 : decode cX7_setStyle 64 = .ok (.getfield 25, 3) := by decide +kernel
theorem dX7_setStyle_67 : decode cX7_setStyle 67 = .ok (.iload_n 1, 1) := by decide +kernel
theorem dX7_setStyle_68 : decode cX7_setStyle 68 = .ok (.iaload, 1) := by decide +kernel
theorem dX7_setStyle_69 : decode cX7_setStyle 69 = .ok (.iadd, 1) := by decide +kernel
theorem dX7_setStyle_70 : decode cX7_setStyle 70 = .ok (.istore 4, 2) := by decide +kernel
theorem dX7_setStyle_72 : decode cX7_setStyle 72 = .ok (.aload_n 0, 1) := by decide +kernel
theorem dX7_setStyle_73 : decode cX7_setStyle 73 = .ok (.getfield 22, 3) := by decide +kernel
theorem dX7_setStyle_76 : decode cX7_setStyle 76 = .ok (.iload_n 1, 1) := by decide +kernel
theorem dX7_setStyle_77 : decode cX7_setStyle 77 = .ok (.iload_n 2, 1) := by decide +kernel
theorem dX7_setStyle_78 : decode cX7_setStyle 78 = .ok (.iastore, 1) := by decide +kernel
theorem dX7_setStyle_79 : decode cX7_setStyle 79 = .ok (.aload_n 0, 1) := by decide +kernel
theorem dX7_setStyle_80 : decode cX7_setStyle 80 = .ok (.getfield 25, 3) := by decide +kernel
theorem dX7_setStyle_83 : decode cX7_setStyle 83 = .ok (.iload_n 1, 1) := by decide +kernel
theorem dX7_setStyle_84 : decode cX7_setStyle 84 = .ok (.iload_n 3, 1) := by decide +kernel
theorem dX7_setStyle_85 : decode cX7_setStyle 85 = .ok (.iastore, 1) := by decide +kernel
theorem dX7_setStyle_86 : decode cX7_setStyle 86 = .ok (.iload 4, 2) := by decide +kernel
theorem dX7_setStyle_88 : decode cX7_setStyle 88 = .ok (.ireturn, 1) := by decide +kernel
theorem dX7_rules_0 : decode cX7_rules 0 = .ok (.aload_n 0, 1) := by decide +kernel
theorem dX7_rules_1 : decode cX7_rules 1 = .ok (.iconst 0, 1) := by decide +kernel
theorem dX7_rules_2 : decode cX7_rules 2 = .ok (.putfield 60, 3) := by decide +kernel
theorem dX7_rules_5 : decode cX7_rules 5 = .ok (.iconst 0, 1) := by decide +kernel
theorem dX7_rules_6 : decode cX7_rules 6 = .ok (.istore_n 1, 1) := by decide +kernel
theorem dX7_rules_7 : decode cX7_rules 7 = .ok (.iconst 0, 1) := by decide +kernel
theorem dX7_rules_8 : decode cX7_rules 8 = .ok (.istore_n 2, 1) := by decide +kernel
theorem dX7_rules_9 : decode cX7_rules 9 = .ok (.iload_n 2, 1) := by decide +kernel
theorem dX7_rules_10 : decode cX7_rules 10 = .ok (.aload_n 0, 1) := by decide +kernel
theorem dX7_rules_11 : decode cX7_rules 11 = .ok (.getfield 96, 3) := by decide +kernel
theorem dX7_rules_14 : decode cX7_rules 14 = .ok (.if_icmp .ge 26, 3) := by decide +kernel
theorem dX7_rules_17 : decode cX7_rules 17 = .ok (.iload_n 1, 1) := by decide +kernel
theorem dX7_rules_18 : decode cX7_rules 18 = .ok (.aload_n 0, 1) := by decide +kernel
theorem dX7_rules_19 : decode cX7_rules 19 = .ok (.getfield 28, 3) := by decide +kernel
theorem dX7_rules_22 : decode cX7_rules 22 = .ok (.iload_n 2, 1) := by decide +kernel
theorem dX7_rules_23 : decode cX7_rules 23 = .ok (.baload, 1) := by decide +kernel
theorem dX7_rules_24 : decode cX7_rules 24 = .ok (.ifCond .eq 7, 3) := by decide +kernel
theorem dX7_rules_27 : decode cX7_rules 27 = .ok (.iconst 0, 1) := by decide +kernel
theorem dX7_rules_28 : decode cX7_rules 28 = .ok (.goto 4, 3) := by decide +kernel
theorem dX7_rules_31 : decode cX7_rules 31 = .ok (.iconst 1, 1) := by decide +kernel
theorem dX7_rules_32 : decode cX7_rules 32 = .ok (.iadd, 1) := by decide +kernel
theorem dX7_rules_33 : decode cX7_rules 33 = .ok (.istore_n 1, 1) := by decide +kernel
theorem dX7_rules_34 : decode cX7_rules 34 = .ok (.iinc 2 1, 3) := by decide +kernel
theorem dX7_rules_37 : decode cX7_rules 37 = .ok (.goto (-28), 3) := by decide +kernel
theorem dX7_rules_40 : decode cX7_rules 40 = .ok (.iload_n 1, 1) := by decide +kernel
theorem dX7_rules_41 : decode cX7_rules 41 = .ok (.ireturn, 1) := by decide +kernel
theorem dX7_addText_0 : decode cX7_addText 0 = .ok (.aload_n 0, 1) := by decide +kernel
theorem dX7_addText_1 : decode cX7_addText 1 = .ok (.iload_n 1, 1) := by decide +kernel
theorem dX7_addText_2 : decode cX7_addText 2 = .ok (.invokestatic 78, 3) := by decide +kernel
theorem dX7_addText_5 : decode cX7_addText 5 = .ok (.ifCond .ne 7, 3) := by decide +kernel
theorem dX7_addText_8 : decode cX7_addText 8 = .ok (.iconst 1, 1) := by decide +kernel
theorem dX7_addText_9 : decode cX7_addText 9 = .ok (.goto 17, 3) := by decide +kernel
theorem dX7_addText_12 : decode cX7_addText 12 = .ok (.aload_n 0, 1) := by decide +kernel
theorem dX7_addText_13 : decode cX7_addText 13 = .ok (.getfield 134, 3) := by decide +kernel
theorem dX7_addText_16 : decode cX7_addText 16 = .ok (.bipush 6, 2) := by decide +kernel
theorem dX7_addText_18 : decode cX7_addText 18 = .ok (.if_icmp .ne 7, 3) := by decide +kernel
theorem dX7_addText_21 : decode cX7_addText 21 = .ok (.iconst 2, 1) := by decide +kernel
theorem dX7_addText_22 : decode cX7_addText 22 = .ok (.goto 4, 3) := by decide +kernel
theorem dX7_addText_25 : decode cX7_addText 25 = .ok (.iconst 0, 1) := by decide +kernel
theorem dX7_addText_26 : decode cX7_addText 26 = .ok (.putfield 60, 3) := by decide +kernel
theorem dX7_addText_29 : decode cX7_addText 29 = .ok (.aload_n 0, 1) := by decide +kernel
theorem dX7_addText_30 : decode cX7_addText 30 = .ok (.getfield 60, 3) := by decide +kernel
theorem dX7_addText_33 : decode cX7_addText 33 = .ok (.ifCond .le 5, 3) := by decide +kernel
theorem dX7_addText_36 : decode cX7_addText 36 = .ok (.iconst (-1), 1) := by decide +kernel
theorem dX7_addText_37 : decode cX7_addText 37 = .ok (.ireturn, 1) := by decide +kernel
theorem dX7_addText_38 : decode cX7_addText 38 = .ok (.aload_n 0, 1) := by decide +kernel
theorem dX7_addText_39 : decode cX7_addText 39 = .ok (.getfield 32, 3) := by decide +kernel
theorem dX7_addText_42 : decode cX7_addText 42 = .ok (.bipush 10, 2) := by decide +kernel
theorem dX7_addText_44 : decode cX7_addText 44 = .ok (.aload_n 0, 1) := by decide +kernel
theorem dX7_addText_45 : decode cX7_addText 45 = .ok (.getfield 134, 3) := by decide +kernel
theorem dX7_addText_48 : decode cX7_addText 48 = .ok (.imul, 1) := by decide +kernel
theorem dX7_addText_49 : decode cX7_addText 49 = .ok (.iload_n 1, 1) := by decide +kernel
theorem dX7_addText_50 : decode cX7_addText 50 = .ok (.iastore, 1) := by decide +kernel
theorem dX7_addText_51 : decode cX7_addText 51 = .ok (.aload_n 0, 1) := by decide +kernel
theorem dX7_addText_52 : decode cX7_addText 52 = .ok (.getfield 35, 3) := by decide +kernel
theorem dX7_addText_55 : decode cX7_addText 55 = .ok (.aload_n 0, 1) := by decide +kernel
theorem dX7_addText_56 : decode cX7_addText 56 = .ok (.getfield 134, 3) := by decide +kernel
theorem dX7_addText_59 : decode cX7_addText 59 = .ok (.iconst 1, 1) := by decide +kernel
theorem dX7_addText_60 : decode cX7_addText 60 = .ok (.iastore, 1) := by decide +kernel
theorem dX7_addText_61 : decode cX7_addText 61 = .ok (.aload_n 0, 1) := by decide +kernel
theorem dX7_addText_62 : decode cX7_addText 62 = .ok (.getfield 41, 3) := by decide +kernel
theorem dX7_addText_65 : decode cX7_addText 65 = .ok (.aload_n 0, 1) := by decide +kernel
theorem dX7_addText_66 : decode cX7_addText 66 = .ok (.getfield 134, 3) := by decide +kernel
theorem dX7_addText_69 : decode cX7_addText 69 = .ok (.iconst 0, 1) := by decide +kernel
theorem dX7_addText_70 : decode cX7_addText 70 = .ok (.iastore, 1) := by decide +kernel
theorem dX7_addText_71 : decode cX7_addText 71 = .ok (.aload_n 0, 1) := by decide +kernel
theorem dX7_addText_72 : decode cX7_addText 72 = .ok (.dup, 1) := by decide +kernel
theorem dX7_addText_73 : decode cX7_addText 73 = .ok (.getfield 137, 3) := by decide +kernel
theorem dX7_addText_76 : decode cX7_addText 76 = .ok (.lconst 1, 1) := by decide +kernel
theorem dX7_addText_77 : decode cX7_addText 77 = .ok (.ladd, 1) := by decide +kernel
theorem dX7_addText_78 : decode cX7_addText 78 = .ok (.putfield 137, 3) := by decide +kernel
theorem dX7_addText_81 : decode cX7_addText 81 = .ok (.aload_n 0, 1) := by decide +kernel
theorem dX7_addText_82 : decode cX7_addText 82 = .ok (.dup, 1) := by decide +kernel
theorem dX7_addText_83 : decode cX7_addText 83 = .ok (.getfield 134, 3) := by decide +kernel
theorem dX7_addText_86 : decode cX7_addText 86 = .ok (.iconst 1, 1) := by decide +kernel
theorem dX7_addText_87 : decode cX7_addText 87 = .ok (.iadd, 1) := by decide +kernel
theorem dX7_addText_88 : decode cX7_addText 88 = .ok (.putfield 134, 3) := by decide +kernel
theorem dX7_addText_91 : decode cX7_addText 91 = .ok (.aload_n 0, 1) := by decide +kernel
theorem dX7_addText_92 : decode cX7_addText 92 = .ok (.getfield 134, 3) := by decide +kernel
theorem dX7_addText_95 : decode cX7_addText 95 = .ok (.iconst 1, 1) := by decide +kernel
theorem dX7_addText_96 : decode cX7_addText 96 = .ok (.isub, 1) := by decide +kernel
theorem dX7_addText_97 : decode cX7_addText 97 = .ok (.ireturn, 1) := by decide +kernel
theorem dX7_isText_0 : decode cX7_isText 0 = .ok (.iload_n 1, 1) := by decide +kernel
theorem dX7_isText_1 : decode cX7_isText 1 = .ok (.i2l, 1) := by decide +kernel
theorem dX7_isText_2 : decode cX7_isText 2 = .ok (.lconst 0, 1) := by decide +kernel
theorem dX7_isText_3 : decode cX7_isText 3 = .ok (.aload_n 0, 1) := by decide +kernel
theorem dX7_isText_4 : decode cX7_isText 4 = .ok (.getfield 134, 3) := by decide +kernel
theorem dX7_isText_7 : decode cX7_isText 7 = .ok (.iconst 1, 1) := by decide +kernel
theorem dX7_isText_8 : decode cX7_isText 8 = .ok (.isub, 1) := by decide +kernel
theorem dX7_isText_9 : decode cX7_isText 9 = .ok (.i2l, 1) := by decide +kernel
theorem dX7_isText_10 : decode cX7_isText 10 = .ok (.invokestatic 68, 3) := by decide +kernel
theorem dX7_isText_13 : decode cX7_isText 13 = .ok (.ireturn, 1) := by decide +kernel
theorem dX7_addLetter_0 : decode cX7_addLetter 0 = .ok (.aload_n 0, 1) := by decide +kernel
theorem dX7_addLetter_1 : decode cX7_addLetter 1 = .ok (.aload_n 0, 1) := by decide +kernel
theorem dX7_addLetter_2 : decode cX7_addLetter 2 = .ok (.iload_n 1, 1) := by decide +kernel
theorem dX7_addLetter_3 : decode cX7_addLetter 3 = .ok (.invokevirtual 154, 3) := by decide +kernel
theorem dX7_addLetter_6 : decode cX7_addLetter 6 = .ok (.ifCond .ne 7, 3) := by decide +kernel
theorem dX7_addLetter_9 : decode cX7_addLetter 9 = .ok (.iconst 1, 1) := by decide +kernel
theorem dX7_addLetter_10 : decode cX7_addLetter 10 = .ok (.goto 30, 3) := by decide +kernel
theorem dX7_addLetter_13 : decode cX7_addLetter 13 = .ok (.iload_n 2, 1) := by decide +kernel
theorem dX7_addLetter_14 : decode cX7_addLetter 14 = .ok (.invokestatic 78, 3) := by decide +kernel
theorem dX7_addLetter_17 : decode cX7_addLetter 17 = .ok (.ifCond .ne 7, 3) := by decide +kernel
theorem dX7_addLetter_20 : decode cX7_addLetter 20 = .ok (.iconst 2, 1) := by decide +kernel
theorem dX7_addLetter_21 : decode cX7_addLetter 21 = .ok (.goto 19, 3) := by decide +kernel
theorem dX7_addLetter_24 : decode cX7_addLetter 24 = .ok (.aload_n 0, 1) := by decide +kernel
theorem dX7_addLetter_25 : decode cX7_addLetter 25 = .ok (.getfield 35, 3) := by decide +kernel
theorem dX7_addLetter_28 : decode cX7_addLetter 28 = .ok (.iload_n 1, 1) := by decide +kernel
theorem dX7_addLetter_29 : decode cX7_addLetter 29 = .ok (.iaload, 1) := by decide +kernel
theorem dX7_addLetter_30 : decode cX7_addLetter 30 = .ok (.bipush 10, 2) := by decide +kernel
theorem dX7_addLetter_32 : decode cX7_addLetter 32 = .ok (.if_icmp .ne 7, 3) := by decide +kernel
theorem dX7_addLetter_35 : decode cX7_addLetter 35 = .ok (.iconst 3, 1) := by decide +kernel
theorem dX7_addLetter_36 : decode cX7_addLetter 36 = .ok (.goto 4, 3) := by decide +kernel
theorem dX7_addLetter_39 : decode cX7_addLetter 39 = .ok (.iconst 0, 1) := by decide +kernel
theorem dX7_addLetter_40 : decode cX7_addLetter 40 = .ok (.putfield 60, 3) := by decide +kernel
theorem dX7_addLetter_43 : decode cX7_addLetter 43 = .ok (.aload_n 0, 1) := by decide +kernel
theorem dX7_addLetter_44 : decode cX7_addLetter 44 = .ok (.getfield 60, 3) := by decide +kernel
theorem dX7_addLetter_47 : decode cX7_addLetter 47 = .ok (.ifCond .le 5, 3) := by decide +kernel
theorem dX7_addLetter_50 : decode cX7_addLetter 50 = .ok (.iconst (-1), 1) := by decide +kernel
theorem dX7_addLetter_51 : decode cX7_addLetter 51 = .ok (.ireturn, 1) := by decide +kernel
theorem dX7_addLetter_52 : decode cX7_addLetter 52 = .ok (.aload_n 0, 1) := by decide +kernel
theorem dX7_addLetter_53 : decode cX7_addLetter 53 = .ok (.getfield 32, 3) := by decide +kernel
theorem dX7_addLetter_56 : decode cX7_addLetter 56 = .ok (.bipush 10, 2) := by decide +kernel
theorem dX7_addLetter_58 : decode cX7_addLetter 58 = .ok (.iload_n 1, 1) := by decide +kernel
theorem dX7_addLetter_59 : decode cX7_addLetter 59 = .ok (.imul, 1) := by decide +kernel
theorem dX7_addLetter_60 : decode cX7_addLetter 60 = .ok (.aload_n 0, 1) := by decide +kernel
theorem dX7_addLetter_61 : decode cX7_addLetter 61 = .ok (.getfield 35, 3) := by decide +kernel
theorem dX7_addLetter_64 : decode cX7_addLetter 64 = .ok (.iload_n 1, 1) := by decide +kernel
theorem dX7_addLetter_65 : decode cX7_addLetter 65 = .ok (.iaload, 1) := by decide +kernel
theorem dX7_addLetter_66 : decode cX7_addLetter 66 = .ok (.iadd, 1) := by decide +kernel
theorem dX7_addLetter_67 : decode cX7_addLetter 67 = .ok (.iload_n 2, 1) := by decide +kernel
theorem dX7_addLetter_68 : decode cX7_addLetter 68 = .ok (.iastore, 1) := by decide +kernel
theorem dX7_addLetter_69 : decode cX7_addLetter 69 = .ok (.aload_n 0, 1) := by decide +kernel
theorem dX7_addLetter_70 : decode cX7_addLetter 70 = .ok (.getfield 35, 3) := by decide +kernel
theorem dX7_addLetter_73 : decode cX7_addLetter 73 = .ok (.iload_n 1, 1) := by decide +kernel
theorem dX7_addLetter_74 : decode cX7_addLetter 74 = .ok (.dup2, 1) := by decide +kernel
theorem dX7_addLetter_75 : decode cX7_addLetter 75 = .ok (.iaload, 1) := by decide +kernel
theorem dX7_addLetter_76 : decode cX7_addLetter 76 = .ok (.iconst 1, 1) := by decide +kernel
theorem dX7_addLetter_77 : decode cX7_addLetter 77 = .ok (.iadd, 1) := by decide +kernel
theorem dX7_addLetter_78 : decode cX7_addLetter 78 = .ok (.iastore, 1) := by decide +kernel
theorem dX7_addLetter_79 : decode cX7_addLetter 79 = .ok (.aload_n 0, 1) := by decide +kernel
theorem dX7_addLetter_80 : decode cX7_addLetter 80 = .ok (.dup, 1) := by decide +kernel
theorem dX7_addLetter_81 : decode cX7_addLetter 81 = .ok (.getfield 137, 3) := by decide +kernel
theorem dX7_addLetter_84 : decode cX7_addLetter 84 = .ok (.aload_n 0, 1) := by decide +kernel
theorem dX7_addLetter_85 : decode cX7_addLetter 85 = .ok (.getfield 35, 3) := by decide +kernel
theorem dX7_addLetter_88 : decode cX7_addLetter 88 = .ok (.iload_n 1, 1) := by decide +kernel
theorem dX7_addLetter_89 : decode cX7_addLetter 89 = .ok (.iaload, 1) := by decide +kernel
theorem dX7_addLetter_90 : decode cX7_addLetter 90 = .ok (.i2l, 1) := by decide +kernel
theorem dX7_addLetter_91 : decode cX7_addLetter 91 = .ok (.ladd, 1) := by decide +kernel
theorem dX7_addLetter_92 : decode cX7_addLetter 92 = .ok (.putfield 137, 3) := by decide +kernel
theorem dX7_addLetter_95 : decode cX7_addLetter 95 = .ok (.aload_n 0, 1) := by decide +kernel
theorem dX7_addLetter_96 : decode cX7_addLetter 96 = .ok (.iload_n 1, 1) := by decide +kernel
theorem dX7_addLetter_97 : decode cX7_addLetter 97 = .ok (.invokevirtual 131, 3) := by decide +kernel
theorem dX7_addLetter_100 : decode cX7_addLetter 100 = .ok (.ireturn, 1) := by decide +kernel
theorem dX7_isPlace_0 : decode cX7_isPlace 0 = .ok (.aload_n 0, 1) := by decide +kernel
theorem dX7_isPlace_1 : decode cX7_isPlace 1 = .ok (.iload_n 1, 1) := by decide +kernel
theorem dX7_isPlace_2 : decode cX7_isPlace 2 = .ok (.invokevirtual 154, 3) := by decide +kernel
theorem dX7_isPlace_5 : decode cX7_isPlace 5 = .ok (.ifCond .eq 25, 3) := by decide +kernel
theorem dX7_isPlace_8 : decode cX7_isPlace 8 = .ok (.iload_n 2, 1) := by decide +kernel
theorem dX7_isPlace_9 : decode cX7_isPlace 9 = .ok (.i2l, 1) := by decide +kernel
theorem dX7_isPlace_10 : decode cX7_isPlace 10 = .ok (.lconst 0, 1) := by decide +kernel
theorem dX7_isPlace_11 : decode cX7_isPlace 11 = .ok (.aload_n 0, 1) := by decide +kernel
theorem dX7_isPlace_12 : decode cX7_isPlace 12 = .ok (.getfield 35, 3) := by decide +kernel
theorem dX7_isPlace_15 : decode cX7_isPlace 15 = .ok (.iload_n 1, 1) := by decide +kernel
theorem dX7_isPlace_16 : decode cX7_isPlace 16 = .ok (.iaload, 1) := by decide +kernel
theorem dX7_isPlace_17 : decode cX7_isPlace 17 = .ok (.iconst 1, 1) := by decide +kernel
theorem dX7_isPlace_18 : decode cX7_isPlace 18 = .ok (.isub, 1) := by decide +kernel
theorem dX7_isPlace_19 : decode cX7_isPlace 19 = .ok (.i2l, 1) := by decide +kernel
theorem dX7_isPlace_20 : decode cX7_isPlace 20 = .ok (.invokestatic 68, 3) := by decide +kernel
theorem dX7_isPlace_23 : decode cX7_isPlace 23 = .ok (.ifCond .eq 7, 3) := by decide +kernel
theorem dX7_isPlace_26 : decode cX7_isPlace 26 = .ok (.iconst 1, 1) := by decide +kernel
theorem dX7_isPlace_27 : decode cX7_isPlace 27 = .ok (.goto 4, 3) := by decide +kernel
theorem dX7_isPlace_30 : decode cX7_isPlace 30 = .ok (.iconst 0, 1) := by decide +kernel
theorem dX7_isPlace_31 : decode cX7_isPlace 31 = .ok (.ireturn, 1) := by decide +kernel
theorem dX7_replace_0 : decode cX7_replace 0 = .ok (.aload_n 0, 1) := by decide +kernel
theorem dX7_replace_1 : decode cX7_replace 1 = .ok (.aload_n 0, 1) := by decide +kernel
theorem dX7_replace_2 : decode cX7_replace 2 = .ok (.iload_n 1, 1) := by decide +kernel
theorem dX7_replace_3 : decode cX7_replace 3 = .ok (.iload_n 2, 1) := by decide +kernel
theorem dX7_replace_4 : decode cX7_replace 4 = .ok (.invokevirtual 157, 3) := by decide +kernel
theorem dX7_replace_7 : decode cX7_replace 7 = .ok (.ifCond .ne 7, 3) := by decide +kernel
theorem dX7_replace_10 : decode cX7_replace 10 = .ok (.iconst 1, 1) := by decide +kernel
theorem dX7_replace_11 : decode cX7_replace 11 = .ok (.goto 15, 3) := by decide +kernel
theorem dX7_replace_14 : decode cX7_replace 14 = .ok (.iload_n 3, 1) := by decide +kernel
theorem dX7_replace_15 : decode cX7_replace 15 = .ok (.invokestatic 78, 3) := by decide +kernel
theorem dX7_replace_18 : decode cX7_replace 18 = .ok (.ifCond .ne 7, 3) := by decide +kernel
theorem dX7_replace_21 : decode cX7_replace 21 = .ok (.iconst 2, 1) := by decide +kernel
theorem dX7_replace_22 : decode cX7_replace 22 = .ok (.goto 4, 3) := by decide +kernel
theorem dX7_replace_25 : decode cX7_replace 25 = .ok (.iconst 0, 1) := by decide +kernel
theorem dX7_replace_26 : decode cX7_replace 26 = .ok (.putfield 60, 3) := by decide +kernel
theorem dX7_replace_29 : decode cX7_replace 29 = .ok (.aload_n 0, 1) := by decide +kernel
theorem dX7_replace_30 : decode cX7_replace 30 = .ok (.getfield 60, 3) := by decide +kernel
theorem dX7_replace_33 : decode cX7_replace 33 = .ok (.ifCond .le 5, 3) := by decide +kernel
theorem dX7_replace_36 : decode cX7_replace 36 = .ok (.iconst (-1), 1) := by decide +kernel
theorem dX7_replace_37 : decode cX7_replace 37 = .ok (.ireturn, 1) := by decide +kernel
theorem dX7_replace_38 : decode cX7_replace 38 = .ok (.aload_n 0, 1) := by decide +kernel
theorem dX7_replace_39 : decode cX7_replace 39 = .ok (.getfield 32, 3) := by decide +kernel
theorem dX7_replace_42 : decode cX7_replace 42 = .ok (.bipush 10, 2) := by decide +kernel
theorem dX7_replace_44 : decode cX7_replace 44 = .ok (.iload_n 1, 1) := by decide +kernel
theorem dX7_replace_45 : decode cX7_replace 45 = .ok (.imul, 1) := by decide +kernel
theorem dX7_replace_46 : decode cX7_replace 46 = .ok (.iload_n 2, 1) := by decide +kernel
theorem dX7_replace_47 : decode cX7_replace 47 = .ok (.iadd, 1) := by decide +kernel
theorem dX7_replace_48 : decode cX7_replace 48 = .ok (.iload_n 3, 1) := by decide +kernel
theorem dX7_replace_49 : decode cX7_replace 49 = .ok (.iastore, 1) := by decide +kernel
theorem dX7_replace_50 : decode cX7_replace 50 = .ok (.aload_n 0, 1) := by decide +kernel
theorem dX7_replace_51 : decode cX7_replace 51 = .ok (.dup, 1) := by decide +kernel
theorem dX7_replace_52 : decode cX7_replace 52 = .ok (.getfield 137, 3) := by decide +kernel
theorem dX7_replace_55 : decode cX7_replace 55 = .ok (.iload_n 2, 1) := by decide +kernel
theorem dX7_replace_56 : decode cX7_replace 56 = .ok (.iconst 1, 1) := by decide +kernel
theorem dX7_replace_57 : decode cX7_replace 57 = .ok (.iadd, 1) := by decide +kernel
theorem dX7_replace_58 : decode cX7_replace 58 = .ok (.aload_n 0, 1) := by decide +kernel
theorem dX7_replace_59 : decode cX7_replace 59 = .ok (.getfield 35, 3) := by decide +kernel
theorem dX7_replace_62 : decode cX7_replace 62 = .ok (.iload_n 1, 1) := by decide +kernel
theorem dX7_replace_63 : decode cX7_replace 63 = .ok (.iaload, 1) := by decide +kernel
theorem dX7_replace_64 : decode cX7_replace 64 = .ok (.iload_n 2, 1) := by decide +kernel
theorem dX7_replace_65 : decode cX7_replace 65 = .ok (.isub, 1) := by decide +kernel
theorem dX7_replace_66 : decode cX7_replace 66 = .ok (.imul, 1) := by decide +kernel
theorem dX7_replace_67 : decode cX7_replace 67 = .ok (.i2l, 1) := by decide +kernel
theorem dX7_replace_68 : decode cX7_replace 68 = .ok (.ladd, 1) := by decide +kernel
theorem dX7_replace_69 : decode cX7_replace 69 = .ok (.putfield 137, 3) := by decide +kernel
theorem dX7_replace_72 : decode cX7_replace 72 = .ok (.aload_n 0, 1) := by decide +kernel
theorem dX7_replace_73 : decode cX7_replace 73 = .ok (.iload_n 1, 1) := by decide +kernel
theorem dX7_replace_74 : decode cX7_replace 74 = .ok (.invokevirtual 131, 3) := by decide +kernel
theorem dX7_replace_77 : decode cX7_replace 77 = .ok (.ireturn, 1) := by decide +kernel
theorem dX7_asks_0 : decode cX7_asks 0 = .ok (.aload_n 0, 1) := by decide +kernel
theorem dX7_asks_1 : decode cX7_asks 1 = .ok (.aload_n 0, 1) := by decide +kernel
theorem dX7_asks_2 : decode cX7_asks 2 = .ok (.iload_n 1, 1) := by decide +kernel
theorem dX7_asks_3 : decode cX7_asks 3 = .ok (.invokevirtual 154, 3) := by decide +kernel
theorem dX7_asks_6 : decode cX7_asks 6 = .ok (.ifCond .eq 7, 3) := by decide +kernel
theorem dX7_asks_9 : decode cX7_asks 9 = .ok (.iconst 0, 1) := by decide +kernel
theorem dX7_asks_10 : decode cX7_asks 10 = .ok (.goto 4, 3) := by decide +kernel
theorem dX7_asks_13 : decode cX7_asks 13 = .ok (.iconst 1, 1) := by decide +kernel
theorem dX7_asks_14 : decode cX7_asks 14 = .ok (.putfield 60, 3) := by decide +kernel
theorem dX7_asks_17 : decode cX7_asks 17 = .ok (.aload_n 0, 1) := by decide +kernel
theorem dX7_asks_18 : decode cX7_asks 18 = .ok (.getfield 60, 3) := by decide +kernel
theorem dX7_asks_21 : decode cX7_asks 21 = .ok (.ifCond .ne 7, 3) := by decide +kernel
theorem dX7_asks_24 : decode cX7_asks 24 = .ok (.iconst 1, 1) := by decide +kernel
theorem dX7_asks_25 : decode cX7_asks 25 = .ok (.goto 4, 3) := by decide +kernel
theorem dX7_asks_28 : decode cX7_asks 28 = .ok (.iconst 0, 1) := by decide +kernel
theorem dX7_asks_29 : decode cX7_asks 29 = .ok (.ireturn, 1) := by decide +kernel
theorem dX7_length_0 : decode cX7_length 0 = .ok (.aload_n 0, 1) := by decide +kernel
theorem dX7_length_1 : decode cX7_length 1 = .ok (.iload_n 1, 1) := by decide +kernel
theorem dX7_length_2 : decode cX7_length 2 = .ok (.invokevirtual 161, 3) := by decide +kernel
theorem dX7_length_5 : decode cX7_length 5 = .ok (.ifCond .eq 12, 3) := by decide +kernel
theorem dX7_length_8 : decode cX7_length 8 = .ok (.aload_n 0, 1) := by decide +kernel
theorem dX7_length_9 : decode cX7_length 9 = .ok (.getfield 35, 3) := by decide +kernel
theorem dX7_length_12 : decode cX7_length 12 = .ok (.iload_n 1, 1) := by decide +kernel
theorem dX7_length_13 : decode cX7_length 13 = .ok (.iaload, 1) := by decide +kernel
theorem dX7_length_14 : decode cX7_length 14 = .ok (.goto 4, 3) := by decide +kernel
theorem dX7_length_17 : decode cX7_length 17 = .ok (.iconst (-1), 1) := by decide +kernel
theorem dX7_length_18 : decode cX7_length 18 = .ok (.ireturn, 1) := by decide +kernel
theorem dX7_letterAt_0 : decode cX7_letterAt 0 = .ok (.aload_n 0, 1) := by decide +kernel
theorem dX7_letterAt_1 : decode cX7_letterAt 1 = .ok (.aload_n 0, 1) := by decide +kernel
theorem dX7_letterAt_2 : decode cX7_letterAt 2 = .ok (.iload_n 1, 1) := by decide +kernel
theorem dX7_letterAt_3 : decode cX7_letterAt 3 = .ok (.iload_n 2, 1) := by decide +kernel
theorem dX7_letterAt_4 : decode cX7_letterAt 4 = .ok (.invokevirtual 157, 3) := by decide +kernel
theorem dX7_letterAt_7 : decode cX7_letterAt 7 = .ok (.ifCond .eq 7, 3) := by decide +kernel
theorem dX7_letterAt_10 : decode cX7_letterAt 10 = .ok (.iconst 0, 1) := by decide +kernel
theorem dX7_letterAt_11 : decode cX7_letterAt 11 = .ok (.goto 4, 3) := by decide +kernel
theorem dX7_letterAt_14 : decode cX7_letterAt 14 = .ok (.iconst 1, 1) := by decide +kernel
theorem dX7_letterAt_15 : decode cX7_letterAt 15 = .ok (.putfield 60, 3) := by decide +kernel
theorem dX7_letterAt_18 : decode cX7_letterAt 18 = .ok (.aload_n 0, 1) := by decide +kernel
theorem dX7_letterAt_19 : decode cX7_letterAt 19 = .ok (.getfield 60, 3) := by decide +kernel
theorem dX7_letterAt_22 : decode cX7_letterAt 22 = .ok (.ifCond .ne 17, 3) := by decide +kernel
theorem dX7_letterAt_25 : decode cX7_letterAt 25 = .ok (.aload_n 0, 1) := by decide +kernel
theorem dX7_letterAt_26 : decode cX7_letterAt 26 = .ok (.getfield 32, 3) := by decide +kernel
theorem dX7_letterAt_29 : decode cX7_letterAt 29 = .ok (.bipush 10, 2) := by decide +kernel
theorem dX7_letterAt_31 : decode cX7_letterAt 31 = .ok (.iload_n 1, 1) := by decide +kernel
theorem dX7_letterAt_32 : decode cX7_letterAt 32 = .ok (.imul, 1) := by decide +kernel
theorem dX7_letterAt_33 : decode cX7_letterAt 33 = .ok (.iload_n 2, 1) := by decide +kernel
theorem dX7_letterAt_34 : decode cX7_letterAt 34 = .ok (.iadd, 1) := by decide +kernel
theorem dX7_letterAt_35 : decode cX7_letterAt 35 = .ok (.iaload, 1) := by decide +kernel
theorem dX7_letterAt_36 : decode cX7_letterAt 36 = .ok (.goto 4, 3) := by decide +kernel
theorem dX7_letterAt_39 : decode cX7_letterAt 39 = .ok (.iconst (-1), 1) := by decide +kernel
theorem dX7_letterAt_40 : decode cX7_letterAt 40 = .ok (.ireturn, 1) := by decide +kernel
theorem dX7_trees_0 : decode cX7_trees 0 = .ok (.aload_n 0, 1) := by decide +kernel
theorem dX7_trees_1 : decode cX7_trees 1 = .ok (.iload_n 1, 1) := by decide +kernel
theorem dX7_trees_2 : decode cX7_trees 2 = .ok (.invokevirtual 161, 3) := by decide +kernel
theorem dX7_trees_5 : decode cX7_trees 5 = .ok (.ifCond .eq 11, 3) := by decide +kernel
theorem dX7_trees_8 : decode cX7_trees 8 = .ok (.aload_n 0, 1) := by decide +kernel
theorem dX7_trees_9 : decode cX7_trees 9 = .ok (.iload_n 1, 1) := by decide +kernel
theorem dX7_trees_10 : decode cX7_trees 10 = .ok (.invokevirtual 131, 3) := by decide +kernel
theorem dX7_trees_13 : decode cX7_trees 13 = .ok (.goto 4, 3) := by decide +kernel
theorem dX7_trees_16 : decode cX7_trees 16 = .ok (.iconst (-1), 1) := by decide +kernel
theorem dX7_trees_17 : decode cX7_trees 17 = .ok (.ireturn, 1) := by decide +kernel
theorem dX7_treesByTrying_0 : decode cX7_treesByTrying 0 = .ok (.aload_n 0, 1) := by decide +kernel
theorem dX7_treesByTrying_1 : decode cX7_treesByTrying 1 = .ok (.aload_n 0, 1) := by decide +kernel
theorem dX7_treesByTrying_2 : decode cX7_treesByTrying 2 = .ok (.iload_n 1, 1) := by decide +kernel
theorem dX7_treesByTrying_3 : decode cX7_treesByTrying 3 = .ok (.invokevirtual 154, 3) := by decide +kernel
theorem dX7_treesByTrying_6 : decode cX7_treesByTrying 6 = .ok (.ifCond .ne 7, 3) := by decide +kernel
theorem dX7_treesByTrying_9 : decode cX7_treesByTrying 9 = .ok (.iconst 1, 1) := by decide +kernel
theorem dX7_treesByTrying_10 : decode cX7_treesByTrying 10 = .ok (.goto 18, 3) := by decide +kernel
theorem dX7_treesByTrying_13 : decode cX7_treesByTrying 13 = .ok (.aload_n 0, 1) := by decide +kernel
theorem dX7_treesByTrying_14 : decode cX7_treesByTrying 14 = .ok (.getfield 35, 3) := by decide +kernel
theorem dX7_treesByTrying_17 : decode cX7_treesByTrying 17 = .ok (.iload_n 1, 1) := by decide +kernel
theorem dX7_treesByTrying_18 : decode cX7_treesByTrying 18 = .ok (.iaload, 1) := by decide +kernel
theorem dX7_treesByTrying_19 : decode cX7_treesByTrying 19 = .ok (.iconst 5, 1) := by decide +kernel
theorem dX7_treesByTrying_20 : decode cX7_treesByTrying 20 = .ok (.if_icmp .le 7, 3) := by decide +kernel
theorem dX7_treesByTrying_23 : decode cX7_treesByTrying 23 = .ok (.iconst 2, 1) := by decide +kernel
theorem dX7_treesByTrying_24 : decode cX7_treesByTrying 24 = .ok (.goto 4, 3) := by decide +kernel
theorem dX7_treesByTrying_27 : decode cX7_treesByTrying 27 = .ok (.iconst 0, 1) := by decide +kernel
theorem dX7_treesByTrying_28 : decode cX7_treesByTrying 28 = .ok (.putfield 60, 3) := by decide +kernel
theorem dX7_treesByTrying_31 : decode cX7_treesByTrying 31 = .ok (.aload_n 0, 1) := by decide +kernel
theorem dX7_treesByTrying_32 : decode cX7_treesByTrying 32 = .ok (.getfield 60, 3) := by decide +kernel
theorem dX7_treesByTrying_35 : decode cX7_treesByTrying 35 = .ok (.ifCond .ne 11, 3) := by decide +kernel
theorem dX7_treesByTrying_38 : decode cX7_treesByTrying 38 = .ok (.aload_n 0, 1) := by decide +kernel
theorem dX7_treesByTrying_39 : decode cX7_treesByTrying 39 = .ok (.iload_n 1, 1) := by decide +kernel
theorem dX7_treesByTrying_40 : decode cX7_treesByTrying 40 = .ok (.invokevirtual 131, 3) := by decide +kernel
theorem dX7_treesByTrying_43 : decode cX7_treesByTrying 43 = .ok (.goto 4, 3) := by decide +kernel
theorem dX7_treesByTrying_46 : decode cX7_treesByTrying 46 = .ok (.iconst (-1), 1) := by decide +kernel
theorem dX7_treesByTrying_47 : decode cX7_treesByTrying 47 = .ok (.ireturn, 1) := by decide +kernel
theorem dX7_treesOver_0 : decode cX7_treesOver 0 = .ok (.aload_n 0, 1) := by decide +kernel
theorem dX7_treesOver_1 : decode cX7_treesOver 1 = .ok (.iload_n 1, 1) := by decide +kernel
theorem dX7_treesOver_2 : decode cX7_treesOver 2 = .ok (.iload_n 3, 1) := by decide +kernel
theorem dX7_treesOver_3 : decode cX7_treesOver 3 = .ok (.invokevirtual 157, 3) := by decide +kernel
theorem dX7_treesOver_6 : decode cX7_treesOver 6 = .ok (.ifCond .eq 17, 3) := by decide +kernel
theorem dX7_treesOver_9 : decode cX7_treesOver 9 = .ok (.aload_n 0, 1) := by decide +kernel
theorem dX7_treesOver_10 : decode cX7_treesOver 10 = .ok (.iload_n 1, 1) := by decide +kernel
theorem dX7_treesOver_11 : decode cX7_treesOver 11 = .ok (.iload 4, 2) := by decide +kernel
theorem dX7_treesOver_13 : decode cX7_treesOver 13 = .ok (.invokevirtual 157, 3) := by decide +kernel
theorem dX7_treesOver_16 : decode cX7_treesOver 16 = .ok (.ifCond .eq 7, 3) := by decide +kernel
theorem dX7_treesOver_19 : decode cX7_treesOver 19 = .ok (.iconst 1, 1) := by decide +kernel
theorem dX7_treesOver_20 : decode cX7_treesOver 20 = .ok (.goto 4, 3) := by decide +kernel
theorem dX7_treesOver_23 : decode cX7_treesOver 23 = .ok (.iconst 0, 1) := by decide +kernel
theorem dX7_treesOver_24 : decode cX7_treesOver 24 = .ok (.istore 5, 2) := by decide +kernel
theorem dX7_treesOver_26 : decode cX7_treesOver 26 = .ok (.aload_n 0, 1) := by decide +kernel
theorem dX7_treesOver_27 : decode cX7_treesOver 27 = .ok (.iload 5, 2) := by decide +kernel
theorem dX7_treesOver_29 : decode cX7_treesOver 29 = .ok (.ifCond .ne 7, 3) := by decide +kernel
theorem dX7_treesOver_32 : decode cX7_treesOver 32 = .ok (.iconst 1, 1) := by decide +kernel
theorem dX7_treesOver_33 : decode cX7_treesOver 33 = .ok (.goto 21, 3) := by decide +kernel
theorem dX7_treesOver_36 : decode cX7_treesOver 36 = .ok (.iload_n 2, 1) := by decide +kernel
theorem dX7_treesOver_37 : decode cX7_treesOver 37 = .ok (.invokestatic 74, 3) := by decide +kernel
theorem dX7_treesOver_40 : decode cX7_treesOver 40 = .ok (.ifCond .eq 9, 3) := by decide +kernel
theorem dX7_treesOver_43 : decode cX7_treesOver 43 = .ok (.iload 4, 2) := by decide +kernel
theorem dX7_treesOver_45 : decode cX7_treesOver 45 = .ok (.iload_n 3, 1) := by decide +kernel
theorem dX7_treesOver_46 : decode cX7_treesOver 46 = .ok (.if_icmp .ge 7, 3) := by decide +kernel
theorem dX7_treesOver_49 : decode cX7_treesOver 49 = .ok (.iconst 2, 1) := by decide +kernel
theorem dX7_treesOver_50 : decode cX7_treesOver 50 = .ok (.goto 4, 3) := by decide +kernel
theorem dX7_treesOver_53 : decode cX7_treesOver 53 = .ok (.iconst 0, 1) := by decide +kernel
theorem dX7_treesOver_54 : decode cX7_treesOver 54 = .ok (.putfield 60, 3) := by decide +kernel
theorem dX7_treesOver_57 : decode cX7_treesOver 57 = .ok (.aload_n 0, 1) := by decide +kernel
theorem dX7_treesOver_58 : decode cX7_treesOver 58 = .ok (.getfield 60, 3) := by decide +kernel
theorem dX7_treesOver_61 : decode cX7_treesOver 61 = .ok (.ifCond .le 5, 3) := by decide +kernel
theorem dX7_treesOver_64 : decode cX7_treesOver 64 = .ok (.iconst (-1), 1) := by decide +kernel
theorem dX7_treesOver_65 : decode cX7_treesOver 65 = .ok (.ireturn, 1) := by decide +kernel
theorem dX7_treesOver_66 : decode cX7_treesOver 66 = .ok (.aload_n 0, 1) := by decide +kernel
theorem dX7_treesOver_67 : decode cX7_treesOver 67 = .ok (.iload_n 1, 1) := by decide +kernel
theorem dX7_treesOver_68 : decode cX7_treesOver 68 = .ok (.invokevirtual 131, 3) := by decide +kernel
theorem dX7_treesOver_71 : decode cX7_treesOver 71 = .ok (.pop, 1) := by decide +kernel
theorem dX7_treesOver_72 : decode cX7_treesOver 72 = .ok (.aload_n 0, 1) := by decide +kernel
theorem dX7_treesOver_73 : decode cX7_treesOver 73 = .ok (.iload_n 2, 1) := by decide +kernel
theorem dX7_treesOver_74 : decode cX7_treesOver 74 = .ok (.iload_n 3, 1) := by decide +kernel
theorem dX7_treesOver_75 : decode cX7_treesOver 75 = .ok (.iload 4, 2) := by decide +kernel
theorem dX7_treesOver_77 : decode cX7_treesOver 77 = .ok (.invokevirtual 81, 3) := by decide +kernel
theorem dX7_treesOver_80 : decode cX7_treesOver 80 = .ok (.ireturn, 1) := by decide +kernel
theorem dX7_size_0 : decode cX7_size 0 = .ok (.aload_n 0, 1) := by decide +kernel
theorem dX7_size_1 : decode cX7_size 1 = .ok (.iload_n 1, 1) := by decide +kernel
theorem dX7_size_2 : decode cX7_size 2 = .ok (.invokevirtual 161, 3) := by decide +kernel
theorem dX7_size_5 : decode cX7_size 5 = .ok (.ifCond .ne 5, 3) := by decide +kernel
theorem dX7_size_8 : decode cX7_size 8 = .ok (.iconst (-1), 1) := by decide +kernel
theorem dX7_size_9 : decode cX7_size 9 = .ok (.ireturn, 1) := by decide +kernel
theorem dX7_size_10 : decode cX7_size 10 = .ok (.aload_n 0, 1) := by decide +kernel
theorem dX7_size_11 : decode cX7_size 11 = .ok (.iload_n 1, 1) := by decide +kernel
theorem dX7_size_12 : decode cX7_size 12 = .ok (.invokevirtual 164, 3) := by decide +kernel
theorem dX7_size_15 : decode cX7_size 15 = .ok (.pop, 1) := by decide +kernel
theorem dX7_size_16 : decode cX7_size 16 = .ok (.aload_n 0, 1) := by decide +kernel
theorem dX7_size_17 : decode cX7_size 17 = .ok (.getfield 115, 3) := by decide +kernel
theorem dX7_size_20 : decode cX7_size 20 = .ok (.ireturn, 1) := by decide +kernel
theorem dX7_ruleAt_0 : decode cX7_ruleAt 0 = .ok (.aload_n 0, 1) := by decide +kernel
theorem dX7_ruleAt_1 : decode cX7_ruleAt 1 = .ok (.iload_n 1, 1) := by decide +kernel
theorem dX7_ruleAt_2 : decode cX7_ruleAt 2 = .ok (.invokevirtual 161, 3) := by decide +kernel
theorem dX7_ruleAt_5 : decode cX7_ruleAt 5 = .ok (.ifCond .ne 5, 3) := by decide +kernel
theorem dX7_ruleAt_8 : decode cX7_ruleAt 8 = .ok (.iconst (-1), 1) := by decide +kernel
theorem dX7_ruleAt_9 : decode cX7_ruleAt 9 = .ok (.ireturn, 1) := by decide +kernel
theorem dX7_ruleAt_10 : decode cX7_ruleAt 10 = .ok (.aload_n 0, 1) := by decide +kernel
theorem dX7_ruleAt_11 : decode cX7_ruleAt 11 = .ok (.iload_n 1, 1) := by decide +kernel
theorem dX7_ruleAt_12 : decode cX7_ruleAt 12 = .ok (.invokevirtual 164, 3) := by decide +kernel
theorem dX7_ruleAt_15 : decode cX7_ruleAt 15 = .ok (.pop, 1) := by decide +kernel
theorem dX7_ruleAt_16 : decode cX7_ruleAt 16 = .ok (.aload_n 0, 1) := by decide +kernel
theorem dX7_ruleAt_17 : decode cX7_ruleAt 17 = .ok (.iload_n 2, 1) := by decide +kernel
theorem dX7_ruleAt_18 : decode cX7_ruleAt 18 = .ok (.i2l, 1) := by decide +kernel
theorem dX7_ruleAt_19 : decode cX7_ruleAt 19 = .ok (.lconst 0, 1) := by decide +kernel
theorem dX7_ruleAt_20 : decode cX7_ruleAt 20 = .ok (.aload_n 0, 1) := by decide +kernel
theorem dX7_ruleAt_21 : decode cX7_ruleAt 21 = .ok (.getfield 115, 3) := by decide +kernel
theorem dX7_ruleAt_24 : decode cX7_ruleAt 24 = .ok (.iconst 1, 1) := by decide +kernel
theorem dX7_ruleAt_25 : decode cX7_ruleAt 25 = .ok (.isub, 1) := by decide +kernel
theorem dX7_ruleAt_26 : decode cX7_ruleAt 26 = .ok (.i2l, 1) := by decide +kernel
theorem dX7_ruleAt_27 : decode cX7_ruleAt 27 = .ok (.invokestatic 68, 3) := by decide +kernel
theorem dX7_ruleAt_30 : decode cX7_ruleAt 30 = .ok (.ifCond .eq 7, 3) := by decide +kernel
theorem dX7_ruleAt_33 : decode cX7_ruleAt 33 = .ok (.iconst 0, 1) := by decide +kernel
theorem dX7_ruleAt_34 : decode cX7_ruleAt 34 = .ok (.goto 4, 3) := by decide +kernel
theorem dX7_ruleAt_37 : decode cX7_ruleAt 37 = .ok (.iconst 2, 1) := by decide +kernel
theorem dX7_ruleAt_38 : decode cX7_ruleAt 38 = .ok (.putfield 60, 3) := by decide +kernel
theorem dX7_ruleAt_41 : decode cX7_ruleAt 41 = .ok (.aload_n 0, 1) := by decide +kernel
theorem dX7_ruleAt_42 : decode cX7_ruleAt 42 = .ok (.getfield 60, 3) := by decide +kernel
theorem dX7_ruleAt_45 : decode cX7_ruleAt 45 = .ok (.ifCond .ne 12, 3) := by decide +kernel
theorem dX7_ruleAt_48 : decode cX7_ruleAt 48 = .ok (.aload_n 0, 1) := by decide +kernel
theorem dX7_ruleAt_49 : decode cX7_ruleAt 49 = .ok (.getfield 50, 3) := by decide +kernel
theorem dX7_ruleAt_52 : decode cX7_ruleAt 52 = .ok (.iload_n 2, 1) := by decide +kernel
theorem dX7_ruleAt_53 : decode cX7_ruleAt 53 = .ok (.iaload, 1) := by decide +kernel
theorem dX7_ruleAt_54 : decode cX7_ruleAt 54 = .ok (.goto 4, 3) := by decide +kernel
theorem dX7_ruleAt_57 : decode cX7_ruleAt 57 = .ok (.iconst (-1), 1) := by decide +kernel
theorem dX7_ruleAt_58 : decode cX7_ruleAt 58 = .ok (.ireturn, 1) := by decide +kernel
theorem dX7_depth_0 : decode cX7_depth 0 = .ok (.aload_n 0, 1) := by decide +kernel
theorem dX7_depth_1 : decode cX7_depth 1 = .ok (.iload_n 1, 1) := by decide +kernel
theorem dX7_depth_2 : decode cX7_depth 2 = .ok (.invokevirtual 161, 3) := by decide +kernel
theorem dX7_depth_5 : decode cX7_depth 5 = .ok (.ifCond .ne 5, 3) := by decide +kernel
theorem dX7_depth_8 : decode cX7_depth 8 = .ok (.iconst (-1), 1) := by decide +kernel
theorem dX7_depth_9 : decode cX7_depth 9 = .ok (.ireturn, 1) := by decide +kernel
theorem dX7_depth_10 : decode cX7_depth 10 = .ok (.aload_n 0, 1) := by decide +kernel
theorem dX7_depth_11 : decode cX7_depth 11 = .ok (.iload_n 1, 1) := by decide +kernel
theorem dX7_depth_12 : decode cX7_depth 12 = .ok (.invokevirtual 164, 3) := by decide +kernel
theorem dX7_depth_15 : decode cX7_depth 15 = .ok (.pop, 1) := by decide +kernel
theorem dX7_depth_16 : decode cX7_depth 16 = .ok (.aload_n 0, 1) := by decide +kernel
theorem dX7_depth_17 : decode cX7_depth 17 = .ok (.getfield 118, 3) := by decide +kernel
theorem dX7_depth_20 : decode cX7_depth 20 = .ok (.ireturn, 1) := by decide +kernel
theorem dX7_colourAt_0 : decode cX7_colourAt 0 = .ok (.aload_n 0, 1) := by decide +kernel
theorem dX7_colourAt_1 : decode cX7_colourAt 1 = .ok (.aload_n 0, 1) := by decide +kernel
theorem dX7_colourAt_2 : decode cX7_colourAt 2 = .ok (.iload_n 1, 1) := by decide +kernel
theorem dX7_colourAt_3 : decode cX7_colourAt 3 = .ok (.iload_n 2, 1) := by decide +kernel
theorem dX7_colourAt_4 : decode cX7_colourAt 4 = .ok (.invokevirtual 157, 3) := by decide +kernel
theorem dX7_colourAt_7 : decode cX7_colourAt 7 = .ok (.ifCond .eq 7, 3) := by decide +kernel
theorem dX7_colourAt_10 : decode cX7_colourAt 10 = .ok (.iconst 0, 1) := by decide +kernel
theorem dX7_colourAt_11 : decode cX7_colourAt 11 = .ok (.goto 4, 3) := by decide +kernel
theorem dX7_colourAt_14 : decode cX7_colourAt 14 = .ok (.iconst 1, 1) := by decide +kernel
theorem dX7_colourAt_15 : decode cX7_colourAt 15 = .ok (.putfield 60, 3) := by decide +kernel
theorem dX7_colourAt_18 : decode cX7_colourAt 18 = .ok (.aload_n 0, 1) := by decide +kernel
theorem dX7_colourAt_19 : decode cX7_colourAt 19 = .ok (.getfield 60, 3) := by decide +kernel
theorem dX7_colourAt_22 : decode cX7_colourAt 22 = .ok (.ifCond .le 5, 3) := by decide +kernel
theorem dX7_colourAt_25 : decode cX7_colourAt 25 = .ok (.iconst (-1), 1) := by decide +kernel
theorem dX7_colourAt_26 : decode cX7_colourAt 26 = .ok (.ireturn, 1) := by decide +kernel
theorem dX7_colourAt_27 : decode cX7_colourAt 27 = .ok (.aload_n 0, 1) := by decide +kernel
theorem dX7_colourAt_28 : decode cX7_colourAt 28 = .ok (.iload_n 1, 1) := by decide +kernel
theorem dX7_colourAt_29 : decode cX7_colourAt 29 = .ok (.invokevirtual 164, 3) := by decide +kernel
theorem dX7_colourAt_32 : decode cX7_colourAt 32 = .ok (.pop, 1) := by decide +kernel
theorem dX7_colourAt_33 : decode cX7_colourAt 33 = .ok (.aload_n 0, 1) := by decide +kernel
theorem dX7_colourAt_34 : decode cX7_colourAt 34 = .ok (.getfield 53, 3) := by decide +kernel
theorem dX7_colourAt_37 : decode cX7_colourAt 37 = .ok (.iload_n 2, 1) := by decide +kernel
theorem dX7_colourAt_38 : decode cX7_colourAt 38 = .ok (.iaload, 1) := by decide +kernel
theorem dX7_colourAt_39 : decode cX7_colourAt 39 = .ok (.ireturn, 1) := by decide +kernel
theorem dX7_formatted_0 : decode cX7_formatted 0 = .ok (.aload_n 0, 1) := by decide +kernel
theorem dX7_formatted_1 : decode cX7_formatted 1 = .ok (.iload_n 1, 1) := by decide +kernel
theorem dX7_formatted_2 : decode cX7_formatted 2 = .ok (.invokevirtual 161, 3) := by decide +kernel
theorem dX7_formatted_5 : decode cX7_formatted 5 = .ok (.ifCond .ne 5, 3) := by decide +kernel
theorem dX7_formatted_8 : decode cX7_formatted 8 = .ok (.iconst (-1), 1) := by decide +kernel
theorem dX7_formatted_9 : decode cX7_formatted 9 = .ok (.ireturn, 1) := by decide +kernel
theorem dX7_formatted_10 : decode cX7_formatted 10 = .ok (.aload_n 0, 1) := by decide +kernel
theorem dX7_formatted_11 : decode cX7_formatted 11 = .ok (.iload_n 1, 1) := by decide +kernel
theorem dX7_formatted_12 : decode cX7_formatted 12 = .ok (.invokevirtual 164, 3) := by decide +kernel
theorem dX7_formatted_15 : decode cX7_formatted 15 = .ok (.pop, 1) := by decide +kernel
theorem dX7_formatted_16 : decode cX7_formatted 16 = .ok (.aload_n 0, 1) := by decide +kernel
theorem dX7_formatted_17 : decode cX7_formatted 17 = .ok (.getfield 109, 3) := by decide +kernel
theorem dX7_formatted_20 : decode cX7_formatted 20 = .ok (.ireturn, 1) := by decide +kernel
theorem dX7_formattedAt_0 : decode cX7_formattedAt 0 = .ok (.aload_n 0, 1) := by decide +kernel
theorem dX7_formattedAt_1 : decode cX7_formattedAt 1 = .ok (.iload_n 1, 1) := by decide +kernel
theorem dX7_formattedAt_2 : decode cX7_formattedAt 2 = .ok (.invokevirtual 161, 3) := by decide +kernel
theorem dX7_formattedAt_5 : decode cX7_formattedAt 5 = .ok (.ifCond .ne 6, 3) := by decide +kernel
theorem dX7_formattedAt_8 : decode cX7_formattedAt 8 = .ok (.bipush 32, 2) := by decide +kernel
theorem dX7_formattedAt_10 : decode cX7_formattedAt 10 = .ok (.ireturn, 1) := by decide +kernel
theorem dX7_formattedAt_11 : decode cX7_formattedAt 11 = .ok (.aload_n 0, 1) := by decide +kernel
theorem dX7_formattedAt_12 : decode cX7_formattedAt 12 = .ok (.iload_n 1, 1) := by decide +kernel
theorem dX7_formattedAt_13 : decode cX7_formattedAt 13 = .ok (.invokevirtual 164, 3) := by decide +kernel
theorem dX7_formattedAt_16 : decode cX7_formattedAt 16 = .ok (.pop, 1) := by decide +kernel
theorem dX7_formattedAt_17 : decode cX7_formattedAt 17 = .ok (.aload_n 0, 1) := by decide +kernel
theorem dX7_formattedAt_18 : decode cX7_formattedAt 18 = .ok (.iload_n 2, 1) := by decide +kernel
theorem dX7_formattedAt_19 : decode cX7_formattedAt 19 = .ok (.i2l, 1) := by decide +kernel
theorem dX7_formattedAt_20 : decode cX7_formattedAt 20 = .ok (.lconst 0, 1) := by decide +kernel
theorem dX7_formattedAt_21 : decode cX7_formattedAt 21 = .ok (.aload_n 0, 1) := by decide +kernel
theorem dX7_formattedAt_22 : decode cX7_formattedAt 22 = .ok (.getfield 109, 3) := by decide +kernel
theorem dX7_formattedAt_25 : decode cX7_formattedAt 25 = .ok (.iconst 1, 1) := by decide +kernel
theorem dX7_formattedAt_26 : decode cX7_formattedAt 26 = .ok (.isub, 1) := by decide +kernel
theorem dX7_formattedAt_27 : decode cX7_formattedAt 27 = .ok (.i2l, 1) := by decide +kernel
theorem dX7_formattedAt_28 : decode cX7_formattedAt 28 = .ok (.invokestatic 68, 3) := by decide +kernel
theorem dX7_formattedAt_31 : decode cX7_formattedAt 31 = .ok (.ifCond .eq 7, 3) := by decide +kernel
theorem dX7_formattedAt_34 : decode cX7_formattedAt 34 = .ok (.iconst 0, 1) := by decide +kernel
theorem dX7_formattedAt_35 : decode cX7_formattedAt 35 = .ok (.goto 4, 3) := by decide +kernel
theorem dX7_formattedAt_38 : decode cX7_formattedAt 38 = .ok (.iconst 2, 1) := by decide +kernel
theorem dX7_formattedAt_39 : decode cX7_formattedAt 39 = .ok (.putfield 60, 3) := by decide +kernel
theorem dX7_formattedAt_42 : decode cX7_formattedAt 42 = .ok (.aload_n 0, 1) := by decide +kernel
theorem dX7_formattedAt_43 : decode cX7_formattedAt 43 = .ok (.getfield 60, 3) := by decide +kernel
theorem dX7_formattedAt_46 : decode cX7_formattedAt 46 = .ok (.ifCond .ne 12, 3) := by decide +kernel
theorem dX7_formattedAt_49 : decode cX7_formattedAt 49 = .ok (.aload_n 0, 1) := by decide +kernel
theorem dX7_formattedAt_50 : decode cX7_formattedAt 50 = .ok (.getfield 56, 3) := by decide +kernel
theorem dX7_formattedAt_53 : decode cX7_formattedAt 53 = .ok (.iload_n 2, 1) := by decide +kernel
theorem dX7_formattedAt_54 : decode cX7_formattedAt 54 = .ok (.caload, 1) := by decide +kernel
theorem dX7_formattedAt_55 : decode cX7_formattedAt 55 = .ok (.goto 5, 3) := by decide +kernel
theorem dX7_formattedAt_58 : decode cX7_formattedAt 58 = .ok (.bipush 32, 2) := by decide +kernel
theorem dX7_formattedAt_60 : decode cX7_formattedAt 60 = .ok (.ireturn, 1) := by decide +kernel
theorem dX7_accept_0 : decode cX7_accept 0 = .ok (.aload_n 0, 1) := by decide +kernel
theorem dX7_accept_1 : decode cX7_accept 1 = .ok (.iload_n 1, 1) := by decide +kernel
theorem dX7_accept_2 : decode cX7_accept 2 = .ok (.invokevirtual 161, 3) := by decide +kernel
theorem dX7_accept_5 : decode cX7_accept 5 = .ok (.ifCond .ne 5, 3) := by decide +kernel
theorem dX7_accept_8 : decode cX7_accept 8 = .ok (.iconst (-1), 1) := by decide +kernel
theorem dX7_accept_9 : decode cX7_accept 9 = .ok (.ireturn, 1) := by decide +kernel
theorem dX7_accept_10 : decode cX7_accept 10 = .ok (.aload_n 0, 1) := by decide +kernel
theorem dX7_accept_11 : decode cX7_accept 11 = .ok (.aload_n 0, 1) := by decide +kernel
theorem dX7_accept_12 : decode cX7_accept 12 = .ok (.iload_n 1, 1) := by decide +kernel
theorem dX7_accept_13 : decode cX7_accept 13 = .ok (.invokevirtual 164, 3) := by decide +kernel
theorem dX7_accept_16 : decode cX7_accept 16 = .ok (.ifCond .ne 7, 3) := by decide +kernel
theorem dX7_accept_19 : decode cX7_accept 19 = .ok (.iconst 2, 1) := by decide +kernel
theorem dX7_accept_20 : decode cX7_accept 20 = .ok (.goto 4, 3) := by decide +kernel
theorem dX7_accept_23 : decode cX7_accept 23 = .ok (.iconst 0, 1) := by decide +kernel
theorem dX7_accept_24 : decode cX7_accept 24 = .ok (.putfield 60, 3) := by decide +kernel
theorem dX7_accept_27 : decode cX7_accept 27 = .ok (.aload_n 0, 1) := by decide +kernel
theorem dX7_accept_28 : decode cX7_accept 28 = .ok (.getfield 60, 3) := by decide +kernel
theorem dX7_accept_31 : decode cX7_accept 31 = .ok (.ifCond .le 5, 3) := by decide +kernel
theorem dX7_accept_34 : decode cX7_accept 34 = .ok (.iconst (-1), 1) := by decide +kernel
theorem dX7_accept_35 : decode cX7_accept 35 = .ok (.ireturn, 1) := by decide +kernel
theorem dX7_accept_36 : decode cX7_accept 36 = .ok (.iconst 0, 1) := by decide +kernel
theorem dX7_accept_37 : decode cX7_accept 37 = .ok (.istore_n 2, 1) := by decide +kernel
theorem dX7_accept_38 : decode cX7_accept 38 = .ok (.iload_n 2, 1) := by decide +kernel
theorem dX7_accept_39 : decode cX7_accept 39 = .ok (.aload_n 0, 1) := by decide +kernel
theorem dX7_accept_40 : decode cX7_accept 40 = .ok (.getfield 115, 3) := by decide +kernel
theorem dX7_accept_43 : decode cX7_accept 43 = .ok (.if_icmp .ge 26, 3) := by decide +kernel
theorem dX7_accept_46 : decode cX7_accept 46 = .ok (.aload_n 0, 1) := by decide +kernel
theorem dX7_accept_47 : decode cX7_accept 47 = .ok (.getfield 38, 3) := by decide +kernel
theorem dX7_accept_50 : decode cX7_accept 50 = .ok (.bipush 100, 2) := by decide +kernel
theorem dX7_accept_52 : decode cX7_accept 52 = .ok (.iload_n 1, 1) := by decide +kernel
theorem dX7_accept_53 : decode cX7_accept 53 = .ok (.imul, 1) := by decide +kernel
theorem dX7_accept_54 : decode cX7_accept 54 = .ok (.iload_n 2, 1) := by decide +kernel
theorem dX7_accept_55 : decode cX7_accept 55 = .ok (.iadd, 1) := by decide +kernel
theorem dX7_accept_56 : decode cX7_accept 56 = .ok (.aload_n 0, 1) := by decide +kernel
theorem dX7_accept_57 : decode cX7_accept 57 = .ok (.getfield 50, 3) := by decide +kernel
theorem dX7_accept_60 : decode cX7_accept 60 = .ok (.iload_n 2, 1) := by decide +kernel
theorem dX7_accept_61 : decode cX7_accept 61 = .ok (.iaload, 1) := by decide +kernel
theorem dX7_accept_62 : decode cX7_accept 62 = .ok (.iastore, 1) := by decide +kernel
theorem dX7_accept_63 : decode cX7_accept 63 = .ok (.iinc 2 1, 3) := by decide +kernel
theorem dX7_accept_66 : decode cX7_accept 66 = .ok (.goto (-28), 3) := by decide +kernel
theorem dX7_accept_69 : decode cX7_accept 69 = .ok (.aload_n 0, 1) := by decide +kernel
theorem dX7_accept_70 : decode cX7_accept 70 = .ok (.getfield 41, 3) := by decide +kernel
theorem dX7_accept_73 : decode cX7_accept 73 = .ok (.iload_n 1, 1) := by decide +kernel
theorem dX7_accept_74 : decode cX7_accept 74 = .ok (.aload_n 0, 1) := by decide +kernel
theorem dX7_accept_75 : decode cX7_accept 75 = .ok (.getfield 115, 3) := by decide +kernel
theorem dX7_accept_78 : decode cX7_accept 78 = .ok (.iastore, 1) := by decide +kernel
theorem dX7_accept_79 : decode cX7_accept 79 = .ok (.aload_n 0, 1) := by decide +kernel
theorem dX7_accept_80 : decode cX7_accept 80 = .ok (.getfield 115, 3) := by decide +kernel
theorem dX7_accept_83 : decode cX7_accept 83 = .ok (.ireturn, 1) := by decide +kernel
theorem dX7_faultOf_0 : decode cX7_faultOf 0 = .ok (.aload_n 0, 1) := by decide +kernel
theorem dX7_faultOf_1 : decode cX7_faultOf 1 = .ok (.iload_n 1, 1) := by decide +kernel
theorem dX7_faultOf_2 : decode cX7_faultOf 2 = .ok (.invokevirtual 164, 3) := by decide +kernel
theorem dX7_faultOf_5 : decode cX7_faultOf 5 = .ok (.istore_n 2, 1) := by decide +kernel
theorem dX7_faultOf_6 : decode cX7_faultOf 6 = .ok (.iload_n 2, 1) := by decide +kernel
theorem dX7_faultOf_7 : decode cX7_faultOf 7 = .ok (.iconst 1, 1) := by decide +kernel
theorem dX7_faultOf_8 : decode cX7_faultOf 8 = .ok (.if_icmp .eq 15, 3) := by decide +kernel
theorem dX7_faultOf_11 : decode cX7_faultOf 11 = .ok (.iload_n 2, 1) := by decide +kernel
theorem dX7_faultOf_12 : decode cX7_faultOf 12 = .ok (.ifCond .ne 8, 3) := by decide +kernel
theorem dX7_faultOf_15 : decode cX7_faultOf 15 = .ok (.bipush 110, 2) := by decide +kernel
theorem dX7_faultOf_17 : decode cX7_faultOf 17 = .ok (.goto 5, 3) := by decide +kernel
theorem dX7_faultOf_20 : decode cX7_faultOf 20 = .ok (.bipush 97, 2) := by decide +kernel
theorem dX7_faultOf_22 : decode cX7_faultOf 22 = .ok (.ireturn, 1) := by decide +kernel
theorem dX7_faultOf_23 : decode cX7_faultOf 23 = .ok (.aload_n 0, 1) := by decide +kernel
theorem dX7_faultOf_24 : decode cX7_faultOf 24 = .ok (.getfield 41, 3) := by decide +kernel
theorem dX7_faultOf_27 : decode cX7_faultOf 27 = .ok (.iload_n 1, 1) := by decide +kernel
theorem dX7_faultOf_28 : decode cX7_faultOf 28 = .ok (.iaload, 1) := by decide +kernel
theorem dX7_faultOf_29 : decode cX7_faultOf 29 = .ok (.ifCond .ne 6, 3) := by decide +kernel
theorem dX7_faultOf_32 : decode cX7_faultOf 32 = .ok (.bipush 117, 2) := by decide +kernel
theorem dX7_faultOf_34 : decode cX7_faultOf 34 = .ok (.ireturn, 1) := by decide +kernel
theorem dX7_faultOf_35 : decode cX7_faultOf 35 = .ok (.aload_n 0, 1) := by decide +kernel
theorem dX7_faultOf_36 : decode cX7_faultOf 36 = .ok (.getfield 41, 3) := by decide +kernel
theorem dX7_faultOf_39 : decode cX7_faultOf 39 = .ok (.iload_n 1, 1) := by decide +kernel
theorem dX7_faultOf_40 : decode cX7_faultOf 40 = .ok (.iaload, 1) := by decide +kernel
theorem dX7_faultOf_41 : decode cX7_faultOf 41 = .ok (.aload_n 0, 1) := by decide +kernel
theorem dX7_faultOf_42 : decode cX7_faultOf 42 = .ok (.getfield 115, 3) := by decide +kernel
theorem dX7_faultOf_45 : decode cX7_faultOf 45 = .ok (.if_icmp .ne 7, 3) := by decide +kernel
theorem dX7_faultOf_48 : decode cX7_faultOf 48 = .ok (.iconst 1, 1) := by decide +kernel
theorem dX7_faultOf_49 : decode cX7_faultOf 49 = .ok (.goto 4, 3) := by decide +kernel
theorem dX7_faultOf_52 : decode cX7_faultOf 52 = .ok (.iconst 0, 1) := by decide +kernel
theorem dX7_faultOf_53 : decode cX7_faultOf 53 = .ok (.istore_n 3, 1) := by decide +kernel
theorem dX7_faultOf_54 : decode cX7_faultOf 54 = .ok (.iconst 0, 1) := by decide +kernel
theorem dX7_faultOf_55 : decode cX7_faultOf 55 = .ok (.istore 4, 2) := by decide +kernel
theorem dX7_faultOf_57 : decode cX7_faultOf 57 = .ok (.iload 4, 2) := by decide +kernel
theorem dX7_faultOf_59 : decode cX7_faultOf 59 = .ok (.aload_n 0, 1) := by decide +kernel
theorem dX7_faultOf_60 : decode cX7_faultOf 60 = .ok (.getfield 115, 3) := by decide +kernel
theorem dX7_faultOf_63 : decode cX7_faultOf 63 = .ok (.if_icmp .ge 41, 3) := by decide +kernel
theorem dX7_faultOf_66 : decode cX7_faultOf 66 = .ok (.iload_n 3, 1) := by decide +kernel
theorem dX7_faultOf_67 : decode cX7_faultOf 67 = .ok (.ifCond .eq 37, 3) := by decide +kernel
theorem dX7_faultOf_70 : decode cX7_faultOf 70 = .ok (.aload_n 0, 1) := by decide +kernel
theorem dX7_faultOf_71 : decode cX7_faultOf 71 = .ok (.getfield 38, 3) := by decide +kernel
theorem dX7_faultOf_74 : decode cX7_faultOf 74 = .ok (.bipush 100, 2) := by decide +kernel
theorem dX7_faultOf_76 : decode cX7_faultOf 76 = .ok (.iload_n 1, 1) := by decide +kernel
theorem dX7_faultOf_77 : decode cX7_faultOf 77 = .ok (.imul, 1) := by decide +kernel
theorem dX7_faultOf_78 : decode cX7_faultOf 78 = .ok (.iload 4, 2) := by decide +kernel
theorem dX7_faultOf_80 : decode cX7_faultOf 80 = .ok (.iadd, 1) := by decide +kernel
theorem dX7_faultOf_81 : decode cX7_faultOf 81 = .ok (.iaload, 1) := by decide +kernel
theorem dX7_faultOf_82 : decode cX7_faultOf 82 = .ok (.aload_n 0, 1) := by decide +kernel
theorem dX7_faultOf_83 : decode cX7_faultOf 83 = .ok (.getfield 50, 3) := by decide +kernel
theorem dX7_faultOf_86 : decode cX7_faultOf 86 = .ok (.iload 4, 2) := by decide +kernel
theorem dX7_faultOf_88 : decode cX7_faultOf 88 = .ok (.iaload, 1) := by decide +kernel
theorem dX7_faultOf_89 : decode cX7_faultOf 89 = .ok (.if_icmp .ne 7, 3) := by decide +kernel
theorem dX7_faultOf_92 : decode cX7_faultOf 92 = .ok (.iconst 1, 1) := by decide +kernel
theorem dX7_faultOf_93 : decode cX7_faultOf 93 = .ok (.goto 4, 3) := by decide +kernel
theorem dX7_faultOf_96 : decode cX7_faultOf 96 = .ok (.iconst 0, 1) := by decide +kernel
theorem dX7_faultOf_97 : decode cX7_faultOf 97 = .ok (.istore_n 3, 1) := by decide +kernel
theorem dX7_faultOf_98 : decode cX7_faultOf 98 = .ok (.iinc 4 1, 3) := by decide +kernel
theorem dX7_faultOf_101 : decode cX7_faultOf 101 = .ok (.goto (-44), 3) := by decide +kernel
theorem dX7_faultOf_104 : decode cX7_faultOf 104 = .ok (.iload_n 3, 1) := by decide +kernel
theorem dX7_faultOf_105 : decode cX7_faultOf 105 = .ok (.ifCond .eq 8, 3) := by decide +kernel
theorem dX7_faultOf_108 : decode cX7_faultOf 108 = .ok (.bipush 45, 2) := by decide +kernel
theorem dX7_faultOf_110 : decode cX7_faultOf 110 = .ok (.goto 5, 3) := by decide +kernel
theorem dX7_faultOf_113 : decode cX7_faultOf 113 = .ok (.bipush 120, 2) := by decide +kernel
theorem dX7_faultOf_115 : decode cX7_faultOf 115 = .ok (.ireturn, 1) := by decide +kernel
theorem dX7_fault_0 : decode cX7_fault 0 = .ok (.aload_n 0, 1) := by decide +kernel
theorem dX7_fault_1 : decode cX7_fault 1 = .ok (.iload_n 1, 1) := by decide +kernel
theorem dX7_fault_2 : decode cX7_fault 2 = .ok (.invokevirtual 161, 3) := by decide +kernel
theorem dX7_fault_5 : decode cX7_fault 5 = .ok (.ifCond .eq 11, 3) := by decide +kernel
theorem dX7_fault_8 : decode cX7_fault 8 = .ok (.aload_n 0, 1) := by decide +kernel
theorem dX7_fault_9 : decode cX7_fault 9 = .ok (.iload_n 1, 1) := by decide +kernel
theorem dX7_fault_10 : decode cX7_fault 10 = .ok (.invokevirtual 167, 3) := by decide +kernel
theorem dX7_fault_13 : decode cX7_fault 13 = .ok (.goto 5, 3) := by decide +kernel
theorem dX7_fault_16 : decode cX7_fault 16 = .ok (.bipush 32, 2) := by decide +kernel
theorem dX7_fault_18 : decode cX7_fault 18 = .ok (.ireturn, 1) := by decide +kernel
theorem dX7_clean_0 : decode cX7_clean 0 = .ok (.iconst 0, 1) := by decide +kernel
theorem dX7_clean_1 : decode cX7_clean 1 = .ok (.istore_n 1, 1) := by decide +kernel
theorem dX7_clean_2 : decode cX7_clean 2 = .ok (.iconst 0, 1) := by decide +kernel
theorem dX7_clean_3 : decode cX7_clean 3 = .ok (.istore_n 2, 1) := by decide +kernel
theorem dX7_clean_4 : decode cX7_clean 4 = .ok (.iload_n 2, 1) := by decide +kernel
theorem dX7_clean_5 : decode cX7_clean 5 = .ok (.aload_n 0, 1) := by decide +kernel
theorem dX7_clean_6 : decode cX7_clean 6 = .ok (.getfield 134, 3) := by decide +kernel
theorem dX7_clean_9 : decode cX7_clean 9 = .ok (.if_icmp .ge 27, 3) := by decide +kernel
theorem dX7_clean_12 : decode cX7_clean 12 = .ok (.iload_n 1, 1) := by decide +kernel
theorem dX7_clean_13 : decode cX7_clean 13 = .ok (.aload_n 0, 1) := by decide +kernel
theorem dX7_clean_14 : decode cX7_clean 14 = .ok (.iload_n 2, 1) := by decide +kernel
theorem dX7_clean_15 : decode cX7_clean 15 = .ok (.invokevirtual 167, 3) := by decide +kernel
theorem dX7_clean_18 : decode cX7_clean 18 = .ok (.bipush 45, 2) := by decide +kernel
theorem dX7_clean_20 : decode cX7_clean 20 = .ok (.if_icmp .ne 7, 3) := by decide +kernel
theorem dX7_clean_23 : decode cX7_clean 23 = .ok (.iconst 1, 1) := by decide +kernel
theorem dX7_clean_24 : decode cX7_clean 24 = .ok (.goto 4, 3) := by decide +kernel
theorem dX7_clean_27 : decode cX7_clean 27 = .ok (.iconst 0, 1) := by decide +kernel
theorem dX7_clean_28 : decode cX7_clean 28 = .ok (.iadd, 1) := by decide +kernel
theorem dX7_clean_29 : decode cX7_clean 29 = .ok (.istore_n 1, 1) := by decide +kernel
theorem dX7_clean_30 : decode cX7_clean 30 = .ok (.iinc 2 1, 3) := by decide +kernel
theorem dX7_clean_33 : decode cX7_clean 33 = .ok (.goto (-29), 3) := by decide +kernel
theorem dX7_clean_36 : decode cX7_clean 36 = .ok (.iload_n 1, 1) := by decide +kernel
theorem dX7_clean_37 : decode cX7_clean 37 = .ok (.ireturn, 1) := by decide +kernel
theorem dX7_release_0 : decode cX7_release 0 = .ok (.aload_n 0, 1) := by decide +kernel
theorem dX7_release_1 : decode cX7_release 1 = .ok (.aload_n 0, 1) := by decide +kernel
theorem dX7_release_2 : decode cX7_release 2 = .ok (.getfield 134, 3) := by decide +kernel
theorem dX7_release_5 : decode cX7_release 5 = .ok (.ifCond .ne 7, 3) := by decide +kernel
theorem dX7_release_8 : decode cX7_release 8 = .ok (.iconst 1, 1) := by decide +kernel
theorem dX7_release_9 : decode cX7_release 9 = .ok (.goto 19, 3) := by decide +kernel
theorem dX7_release_12 : decode cX7_release 12 = .ok (.aload_n 0, 1) := by decide +kernel
theorem dX7_release_13 : decode cX7_release 13 = .ok (.invokevirtual 171, 3) := by decide +kernel
theorem dX7_release_16 : decode cX7_release 16 = .ok (.aload_n 0, 1) := by decide +kernel
theorem dX7_release_17 : decode cX7_release 17 = .ok (.getfield 134, 3) := by decide +kernel
theorem dX7_release_20 : decode cX7_release 20 = .ok (.if_icmp .ge 7, 3) := by decide +kernel
theorem dX7_release_23 : decode cX7_release 23 = .ok (.iconst 2, 1) := by decide +kernel
theorem dX7_release_24 : decode cX7_release 24 = .ok (.goto 4, 3) := by decide +kernel
theorem dX7_release_27 : decode cX7_release 27 = .ok (.iconst 0, 1) := by decide +kernel
theorem dX7_release_28 : decode cX7_release 28 = .ok (.putfield 60, 3) := by decide +kernel
theorem dX7_release_31 : decode cX7_release 31 = .ok (.aload_n 0, 1) := by decide +kernel
theorem dX7_release_32 : decode cX7_release 32 = .ok (.getfield 60, 3) := by decide +kernel
theorem dX7_release_35 : decode cX7_release 35 = .ok (.ifCond .le 5, 3) := by decide +kernel
theorem dX7_release_38 : decode cX7_release 38 = .ok (.iconst (-1), 1) := by decide +kernel
theorem dX7_release_39 : decode cX7_release 39 = .ok (.ireturn, 1) := by decide +kernel
theorem dX7_release_40 : decode cX7_release 40 = .ok (.aload_n 0, 1) := by decide +kernel
theorem dX7_release_41 : decode cX7_release 41 = .ok (.dup, 1) := by decide +kernel
theorem dX7_release_42 : decode cX7_release 42 = .ok (.getfield 175, 3) := by decide +kernel
theorem dX7_release_45 : decode cX7_release 45 = .ok (.iconst 1, 1) := by decide +kernel
theorem dX7_release_46 : decode cX7_release 46 = .ok (.iadd, 1) := by decide +kernel
theorem dX7_release_47 : decode cX7_release 47 = .ok (.putfield 175, 3) := by decide +kernel
theorem dX7_release_50 : decode cX7_release 50 = .ok (.aload_n 0, 1) := by decide +kernel
theorem dX7_release_51 : decode cX7_release 51 = .ok (.getfield 175, 3) := by decide +kernel
theorem dX7_release_54 : decode cX7_release 54 = .ok (.ireturn, 1) := by decide +kernel
theorem dX7_finds_0 : decode cX7_finds 0 = .ok (.aload_n 0, 1) := by decide +kernel
theorem dX7_finds_1 : decode cX7_finds 1 = .ok (.iconst 1, 1) := by decide +kernel
theorem dX7_finds_2 : decode cX7_finds 2 = .ok (.putfield 93, 3) := by decide +kernel
theorem dX7_finds_5 : decode cX7_finds 5 = .ok (.aload_n 0, 1) := by decide +kernel
theorem dX7_finds_6 : decode cX7_finds 6 = .ok (.getfield 93, 3) := by decide +kernel
theorem dX7_finds_9 : decode cX7_finds 9 = .ok (.iload_n 2, 1) := by decide +kernel
theorem dX7_finds_10 : decode cX7_finds 10 = .ok (.if_icmp .gt 118, 3) := by decide +kernel
theorem dX7_finds_13 : decode cX7_finds 13 = .ok (.iconst 1, 1) := by decide +kernel
theorem dX7_finds_14 : decode cX7_finds 14 = .ok (.istore_n 3, 1) := by decide +kernel
theorem dX7_finds_15 : decode cX7_finds 15 = .ok (.iconst 0, 1) := by decide +kernel
theorem dX7_finds_16 : decode cX7_finds 16 = .ok (.istore 4, 2) := by decide +kernel
theorem dX7_finds_18 : decode cX7_finds 18 = .ok (.iload 4, 2) := by decide +kernel
theorem dX7_finds_20 : decode cX7_finds 20 = .ok (.aload_n 0, 1) := by decide +kernel
theorem dX7_finds_21 : decode cX7_finds 21 = .ok (.getfield 93, 3) := by decide +kernel
theorem dX7_finds_24 : decode cX7_finds 24 = .ok (.if_icmp .ge 13, 3) := by decide +kernel
theorem dX7_finds_27 : decode cX7_finds 27 = .ok (.iload_n 3, 1) := by decide +kernel
theorem dX7_finds_28 : decode cX7_finds 28 = .ok (.iload_n 1, 1) := by decide +kernel
theorem dX7_finds_29 : decode cX7_finds 29 = .ok (.imul, 1) := by decide +kernel
theorem dX7_finds_30 : decode cX7_finds 30 = .ok (.istore_n 3, 1) := by decide +kernel
theorem dX7_finds_31 : decode cX7_finds 31 = .ok (.iinc 4 1, 3) := by decide +kernel
theorem dX7_finds_34 : decode cX7_finds 34 = .ok (.goto (-16), 3) := by decide +kernel
theorem dX7_finds_37 : decode cX7_finds 37 = .ok (.iconst 0, 1) := by decide +kernel
theorem dX7_finds_38 : decode cX7_finds 38 = .ok (.istore 4, 2) := by decide +kernel
theorem dX7_finds_40 : decode cX7_finds 40 = .ok (.iload 4, 2) := by decide +kernel
theorem dX7_finds_42 : decode cX7_finds 42 = .ok (.iload_n 3, 1) := by decide +kernel
theorem dX7_finds_43 : decode cX7_finds 43 = .ok (.if_icmp .ge 72, 3) := by decide +kernel
theorem dX7_finds_46 : decode cX7_finds 46 = .ok (.iload 4, 2) := by decide +kernel
theorem dX7_finds_48 : decode cX7_finds 48 = .ok (.istore 5, 2) := by decide +kernel
theorem dX7_finds_50 : decode cX7_finds 50 = .ok (.aload_n 0, 1) := by decide +kernel
theorem dX7_finds_51 : decode cX7_finds 51 = .ok (.getfield 93, 3) := by decide +kernel
theorem dX7_finds_54 : decode cX7_finds 54 = .ok (.iconst 1, 1) := by decide +kernel
theorem dX7_finds_55 : decode cX7_finds 55 = .ok (.isub, 1) := by decide +kernel
theorem dX7_finds_56 : decode cX7_finds 56 = .ok (.istore 6, 2) := by decide +kernel
theorem dX7_finds_58 : decode cX7_finds 58 = .ok (.iload 6, 2) := by decide +kernel
theorem dX7_finds_60 : decode cX7_finds 60 = .ok (.ifCond .lt 26, 3) := by decide +kernel
theorem dX7_finds_63 : decode cX7_finds 63 = .ok (.aload_n 0, 1) := by decide +kernel
theorem dX7_finds_64 : decode cX7_finds 64 = .ok (.getfield 44, 3) := by decide +kernel
theorem dX7_finds_67 : decode cX7_finds 67 = .ok (.iload 6, 2) := by decide +kernel
theorem dX7_finds_69 : decode cX7_finds 69 = .ok (.iload 5, 2) := by decide +kernel
theorem dX7_finds_71 : decode cX7_finds 71 = .ok (.iload_n 1, 1) := by decide +kernel
theorem dX7_finds_72 : decode cX7_finds 72 = .ok (.irem, 1) := by decide +kernel
theorem dX7_finds_73 : decode cX7_finds 73 = .ok (.iastore, 1) := by decide +kernel
theorem dX7_finds_74 : decode cX7_finds 74 = .ok (.iload 5, 2) := by decide +kernel
theorem dX7_finds_76 : decode cX7_finds 76 = .ok (.iload_n 1, 1) := by decide +kernel
theorem dX7_finds_77 : decode cX7_finds 77 = .ok (.idiv, 1) := by decide +kernel
theorem dX7_finds_78 : decode cX7_finds 78 = .ok (.istore 5, 2) := by decide +kernel
theorem dX7_finds_80 : decode cX7_finds 80 = .ok (.iinc 6 (-1), 3) := by decide +kernel
theorem dX7_finds_83 : decode cX7_finds 83 = .ok (.goto (-25), 3) := by decide +kernel
theorem dX7_finds_86 : decode cX7_finds 86 = .ok (.aload_n 0, 1) := by decide +kernel
theorem dX7_finds_87 : decode cX7_finds 87 = .ok (.invokevirtual 102, 3) := by decide +kernel
theorem dX7_finds_90 : decode cX7_finds 90 = .ok (.aload_n 0, 1) := by decide +kernel
theorem dX7_finds_91 : decode cX7_finds 91 = .ok (.bipush 10, 2) := by decide +kernel
theorem dX7_finds_93 : decode cX7_finds 93 = .ok (.iconst 0, 1) := by decide +kernel
theorem dX7_finds_94 : decode cX7_finds 94 = .ok (.aload_n 0, 1) := by decide +kernel
theorem dX7_finds_95 : decode cX7_finds 95 = .ok (.getfield 93, 3) := by decide +kernel
theorem dX7_finds_98 : decode cX7_finds 98 = .ok (.iconst 1, 1) := by decide +kernel
theorem dX7_finds_99 : decode cX7_finds 99 = .ok (.isub, 1) := by decide +kernel
theorem dX7_finds_100 : decode cX7_finds 100 = .ok (.invokevirtual 81, 3) := by decide +kernel
theorem dX7_finds_103 : decode cX7_finds 103 = .ok (.iconst 1, 1) := by decide +kernel
theorem dX7_finds_104 : decode cX7_finds 104 = .ok (.if_icmp .le 5, 3) := by decide +kernel
theorem dX7_finds_107 : decode cX7_finds 107 = .ok (.iconst 1, 1) := by decide +kernel
theorem dX7_finds_108 : decode cX7_finds 108 = .ok (.ireturn, 1) := by decide +kernel
theorem dX7_finds_109 : decode cX7_finds 109 = .ok (.iinc 4 1, 3) := by decide +kernel
theorem dX7_finds_112 : decode cX7_finds 112 = .ok (.goto (-72), 3) := by decide +kernel
theorem dX7_finds_115 : decode cX7_finds 115 = .ok (.aload_n 0, 1) := by decide +kernel
theorem dX7_finds_116 : decode cX7_finds 116 = .ok (.dup, 1) := by decide +kernel
theorem dX7_finds_117 : decode cX7_finds 117 = .ok (.getfield 93, 3) := by decide +kernel
theorem dX7_finds_120 : decode cX7_finds 120 = .ok (.iconst 1, 1) := by decide +kernel
theorem dX7_finds_121 : decode cX7_finds 121 = .ok (.iadd, 1) := by decide +kernel
theorem dX7_finds_122 : decode cX7_finds 122 = .ok (.putfield 93, 3) := by decide +kernel
theorem dX7_finds_125 : decode cX7_finds 125 = .ok (.goto (-120), 3) := by decide +kernel
theorem dX7_finds_128 : decode cX7_finds 128 = .ok (.iconst 0, 1) := by decide +kernel
theorem dX7_finds_129 : decode cX7_finds 129 = .ok (.ireturn, 1) := by decide +kernel
theorem dX7_asksRow_0 : decode cX7_asksRow 0 = .ok (.iload_n 1, 1) := by decide +kernel
theorem dX7_asksRow_1 : decode cX7_asksRow 1 = .ok (.i2l, 1) := by decide +kernel
theorem dX7_asksRow_2 : decode cX7_asksRow 2 = .ok (.lconst 1, 1) := by decide +kernel
theorem dX7_asksRow_3 : decode cX7_asksRow 3 = .ok (.ldc2_w 152, 3) := by decide +kernel
theorem dX7_asksRow_6 : decode cX7_asksRow 6 = .ok (.invokestatic 68, 3) := by decide +kernel
theorem dX7_asksRow_9 : decode cX7_asksRow 9 = .ok (.ifCond .eq 19, 3) := by decide +kernel
theorem dX7_asksRow_12 : decode cX7_asksRow 12 = .ok (.iload_n 2, 1) := by decide +kernel
theorem dX7_asksRow_13 : decode cX7_asksRow 13 = .ok (.i2l, 1) := by decide +kernel
theorem dX7_asksRow_14 : decode cX7_asksRow 14 = .ok (.lconst 1, 1) := by decide +kernel
theorem dX7_asksRow_15 : decode cX7_asksRow 15 = .ok (.ldc2_w 178, 3) := by decide +kernel
theorem dX7_asksRow_18 : decode cX7_asksRow 18 = .ok (.invokestatic 68, 3) := by decide +kernel
theorem dX7_asksRow_21 : decode cX7_asksRow 21 = .ok (.ifCond .eq 7, 3) := by decide +kernel
theorem dX7_asksRow_24 : decode cX7_asksRow 24 = .ok (.iconst 1, 1) := by decide +kernel
theorem dX7_asksRow_25 : decode cX7_asksRow 25 = .ok (.goto 4, 3) := by decide +kernel
theorem dX7_asksRow_28 : decode cX7_asksRow 28 = .ok (.iconst 0, 1) := by decide +kernel
theorem dX7_asksRow_29 : decode cX7_asksRow 29 = .ok (.istore_n 3, 1) := by decide +kernel
theorem dX7_asksRow_30 : decode cX7_asksRow 30 = .ok (.aload_n 0, 1) := by decide +kernel
theorem dX7_asksRow_31 : decode cX7_asksRow 31 = .ok (.iload_n 3, 1) := by decide +kernel
theorem dX7_asksRow_32 : decode cX7_asksRow 32 = .ok (.ifCond .ne 7, 3) := by decide +kernel
theorem dX7_asksRow_35 : decode cX7_asksRow 35 = .ok (.iconst 1, 1) := by decide +kernel
theorem dX7_asksRow_36 : decode cX7_asksRow 36 = .ok (.goto 17, 3) := by decide +kernel
theorem dX7_asksRow_39 : decode cX7_asksRow 39 = .ok (.aload_n 0, 1) := by decide +kernel
theorem dX7_asksRow_40 : decode cX7_asksRow 40 = .ok (.iload_n 1, 1) := by decide +kernel
theorem dX7_asksRow_41 : decode cX7_asksRow 41 = .ok (.iload_n 2, 1) := by decide +kernel
theorem dX7_asksRow_42 : decode cX7_asksRow 42 = .ok (.invokevirtual 180, 3) := by decide +kernel
theorem dX7_asksRow_45 : decode cX7_asksRow 45 = .ok (.ifCond .ne 7, 3) := by decide +kernel
theorem dX7_asksRow_48 : decode cX7_asksRow 48 = .ok (.iconst 2, 1) := by decide +kernel
theorem dX7_asksRow_49 : decode cX7_asksRow 49 = .ok (.goto 4, 3) := by decide +kernel
theorem dX7_asksRow_52 : decode cX7_asksRow 52 = .ok (.iconst 0, 1) := by decide +kernel
theorem dX7_asksRow_53 : decode cX7_asksRow 53 = .ok (.putfield 60, 3) := by decide +kernel
theorem dX7_asksRow_56 : decode cX7_asksRow 56 = .ok (.aload_n 0, 1) := by decide +kernel
theorem dX7_asksRow_57 : decode cX7_asksRow 57 = .ok (.getfield 60, 3) := by decide +kernel
theorem dX7_asksRow_60 : decode cX7_asksRow 60 = .ok (.ifCond .ne 7, 3) := by decide +kernel
theorem dX7_asksRow_63 : decode cX7_asksRow 63 = .ok (.iconst 1, 1) := by decide +kernel
theorem dX7_asksRow_64 : decode cX7_asksRow 64 = .ok (.goto 4, 3) := by decide +kernel
theorem dX7_asksRow_67 : decode cX7_asksRow 67 = .ok (.iconst 0, 1) := by decide +kernel
theorem dX7_asksRow_68 : decode cX7_asksRow 68 = .ok (.ireturn, 1) := by decide +kernel
theorem dX7_ambiguous_0 : decode cX7_ambiguous 0 = .ok (.aload_n 0, 1) := by decide +kernel
theorem dX7_ambiguous_1 : decode cX7_ambiguous 1 = .ok (.iload_n 1, 1) := by decide +kernel
theorem dX7_ambiguous_2 : decode cX7_ambiguous 2 = .ok (.iload_n 2, 1) := by decide +kernel
theorem dX7_ambiguous_3 : decode cX7_ambiguous 3 = .ok (.invokevirtual 183, 3) := by decide +kernel
theorem dX7_ambiguous_6 : decode cX7_ambiguous 6 = .ok (.ifCond .eq 10, 3) := by decide +kernel
theorem dX7_ambiguous_9 : decode cX7_ambiguous 9 = .ok (.aload_n 0, 1) := by decide +kernel
theorem dX7_ambiguous_10 : decode cX7_ambiguous 10 = .ok (.getfield 93, 3) := by decide +kernel
theorem dX7_ambiguous_13 : decode cX7_ambiguous 13 = .ok (.goto 4, 3) := by decide +kernel
theorem dX7_ambiguous_16 : decode cX7_ambiguous 16 = .ok (.iconst (-1), 1) := by decide +kernel
theorem dX7_ambiguous_17 : decode cX7_ambiguous 17 = .ok (.ireturn, 1) := by decide +kernel
theorem dX7_ambiguousAt_0 : decode cX7_ambiguousAt 0 = .ok (.aload_n 0, 1) := by decide +kernel
theorem dX7_ambiguousAt_1 : decode cX7_ambiguousAt 1 = .ok (.iload_n 1, 1) := by decide +kernel
theorem dX7_ambiguousAt_2 : decode cX7_ambiguousAt 2 = .ok (.iload_n 2, 1) := by decide +kernel
theorem dX7_ambiguousAt_3 : decode cX7_ambiguousAt 3 = .ok (.invokevirtual 183, 3) := by decide +kernel
theorem dX7_ambiguousAt_6 : decode cX7_ambiguousAt 6 = .ok (.ifCond .eq 28, 3) := by decide +kernel
theorem dX7_ambiguousAt_9 : decode cX7_ambiguousAt 9 = .ok (.aload_n 0, 1) := by decide +kernel
theorem dX7_ambiguousAt_10 : decode cX7_ambiguousAt 10 = .ok (.iload_n 3, 1) := by decide +kernel
theorem dX7_ambiguousAt_11 : decode cX7_ambiguousAt 11 = .ok (.i2l, 1) := by decide +kernel
theorem dX7_ambiguousAt_12 : decode cX7_ambiguousAt 12 = .ok (.lconst 0, 1) := by decide +kernel
theorem dX7_ambiguousAt_13 : decode cX7_ambiguousAt 13 = .ok (.aload_n 0, 1) := by decide +kernel
theorem dX7_ambiguousAt_14 : decode cX7_ambiguousAt 14 = .ok (.getfield 93, 3) := by decide +kernel
theorem dX7_ambiguousAt_17 : decode cX7_ambiguousAt 17 = .ok (.iconst 1, 1) := by decide +kernel
theorem dX7_ambiguousAt_18 : decode cX7_ambiguousAt 18 = .ok (.isub, 1) := by decide +kernel
theorem dX7_ambiguousAt_19 : decode cX7_ambiguousAt 19 = .ok (.i2l, 1) := by decide +kernel
theorem dX7_ambiguousAt_20 : decode cX7_ambiguousAt 20 = .ok (.invokestatic 68, 3) := by decide +kernel
theorem dX7_ambiguousAt_23 : decode cX7_ambiguousAt 23 = .ok (.ifCond .eq 7, 3) := by decide +kernel
theorem dX7_ambiguousAt_26 : decode cX7_ambiguousAt 26 = .ok (.iconst 0, 1) := by decide +kernel
theorem dX7_ambiguousAt_27 : decode cX7_ambiguousAt 27 = .ok (.goto 4, 3) := by decide +kernel
theorem dX7_ambiguousAt_30 : decode cX7_ambiguousAt 30 = .ok (.iconst 2, 1) := by decide +kernel
theorem dX7_ambiguousAt_31 : decode cX7_ambiguousAt 31 = .ok (.putfield 60, 3) := by decide +kernel
theorem dX7_ambiguousAt_34 : decode cX7_ambiguousAt 34 = .ok (.aload_n 0, 1) := by decide +kernel
theorem dX7_ambiguousAt_35 : decode cX7_ambiguousAt 35 = .ok (.getfield 60, 3) := by decide +kernel
theorem dX7_ambiguousAt_38 : decode cX7_ambiguousAt 38 = .ok (.ifCond .ne 12, 3) := by decide +kernel
theorem dX7_ambiguousAt_41 : decode cX7_ambiguousAt 41 = .ok (.aload_n 0, 1) := by decide +kernel
theorem dX7_ambiguousAt_42 : decode cX7_ambiguousAt 42 = .ok (.getfield 44, 3) := by decide +kernel
theorem dX7_ambiguousAt_45 : decode cX7_ambiguousAt 45 = .ok (.iload_n 3, 1) := by decide +kernel
theorem dX7_ambiguousAt_46 : decode cX7_ambiguousAt 46 = .ok (.iaload, 1) := by decide +kernel
theorem dX7_ambiguousAt_47 : decode cX7_ambiguousAt 47 = .ok (.goto 4, 3) := by decide +kernel
theorem dX7_ambiguousAt_50 : decode cX7_ambiguousAt 50 = .ok (.iconst (-1), 1) := by decide +kernel
theorem dX7_ambiguousAt_51 : decode cX7_ambiguousAt 51 = .ok (.ireturn, 1) := by decide +kernel
theorem dX7_work_0 : decode cX7_work 0 = .ok (.aload_n 0, 1) := by decide +kernel
theorem dX7_work_1 : decode cX7_work 1 = .ok (.iconst 0, 1) := by decide +kernel
theorem dX7_work_2 : decode cX7_work 2 = .ok (.putfield 60, 3) := by decide +kernel
theorem dX7_work_5 : decode cX7_work 5 = .ok (.aload_n 0, 1) := by decide +kernel
theorem dX7_work_6 : decode cX7_work 6 = .ok (.getfield 137, 3) := by decide +kernel
theorem dX7_work_9 : decode cX7_work 9 = .ok (.lreturn, 1) := by decide +kernel
theorem dX7_cleanShare_0 : decode cX7_cleanShare 0 = .ok (.aload_n 0, 1) := by decide +kernel
theorem dX7_cleanShare_1 : decode cX7_cleanShare 1 = .ok (.aload_n 0, 1) := by decide +kernel
theorem dX7_cleanShare_2 : decode cX7_cleanShare 2 = .ok (.getfield 134, 3) := by decide +kernel
theorem dX7_cleanShare_5 : decode cX7_cleanShare 5 = .ok (.ifCond .ne 7, 3) := by decide +kernel
theorem dX7_cleanShare_8 : decode cX7_cleanShare 8 = .ok (.iconst 1, 1) := by decide +kernel
theorem dX7_cleanShare_9 : decode cX7_cleanShare 9 = .ok (.goto 4, 3) := by decide +kernel
theorem dX7_cleanShare_12 : decode cX7_cleanShare 12 = .ok (.iconst 0, 1) := by decide +kernel
theorem dX7_cleanShare_13 : decode cX7_cleanShare 13 = .ok (.putfield 60, 3) := by decide +kernel
theorem dX7_cleanShare_16 : decode cX7_cleanShare 16 = .ok (.aload_n 0, 1) := by decide +kernel
theorem dX7_cleanShare_17 : decode cX7_cleanShare 17 = .ok (.getfield 60, 3) := by decide +kernel
theorem dX7_cleanShare_20 : decode cX7_cleanShare 20 = .ok (.ifCond .ne 17, 3) := by decide +kernel
theorem dX7_cleanShare_23 : decode cX7_cleanShare 23 = .ok (.aload_n 0, 1) := by decide +kernel
theorem dX7_cleanShare_24 : decode cX7_cleanShare 24 = .ok (.invokevirtual 171, 3) := by decide +kernel
theorem dX7_cleanShare_27 : decode cX7_cleanShare 27 = .ok (.i2f, 1) := by decide +kernel
theorem dX7_cleanShare_28 : decode cX7_cleanShare 28 = .ok (.aload_n 0, 1) := by decide +kernel
theorem dX7_cleanShare_29 : decode cX7_cleanShare 29 = .ok (.getfield 134, 3) := by decide +kernel
theorem dX7_cleanShare_32 : decode cX7_cleanShare 32 = .ok (.i2f, 1) := by decide +kernel
theorem dX7_cleanShare_33 : decode cX7_cleanShare 33 = .ok (.fdiv, 1) := by decide +kernel
theorem dX7_cleanShare_34 : decode cX7_cleanShare 34 = .ok (.goto 4, 3) := by decide +kernel
theorem dX7_cleanShare_37 : decode cX7_cleanShare 37 = .ok (.fconst 0, 1) := by decide +kernel
theorem dX7_cleanShare_38 : decode cX7_cleanShare 38 = .ok (.freturn, 1) := by decide +kernel
theorem dX7_meanTrees_0 : decode cX7_meanTrees 0 = .ok (.iconst 0, 1) := by decide +kernel
theorem dX7_meanTrees_1 : decode cX7_meanTrees 1 = .ok (.istore_n 1, 1) := by decide +kernel
theorem dX7_meanTrees_2 : decode cX7_meanTrees 2 = .ok (.iconst 0, 1) := by decide +kernel
theorem dX7_meanTrees_3 : decode cX7_meanTrees 3 = .ok (.istore_n 2, 1) := by decide +kernel
theorem dX7_meanTrees_4 : decode cX7_meanTrees 4 = .ok (.iload_n 2, 1) := by decide +kernel
theorem dX7_meanTrees_5 : decode cX7_meanTrees 5 = .ok (.aload_n 0, 1) := by decide +kernel
theorem dX7_meanTrees_6 : decode cX7_meanTrees 6 = .ok (.getfield 134, 3) := by decide +kernel
theorem dX7_meanTrees_9 : decode cX7_meanTrees 9 = .ok (.if_icmp .ge 17, 3) := by decide +kernel
theorem dX7_meanTrees_12 : decode cX7_meanTrees 12 = .ok (.iload_n 1, 1) := by decide +kernel
theorem dX7_meanTrees_13 : decode cX7_meanTrees 13 = .ok (.aload_n 0, 1) := by decide +kernel
theorem dX7_meanTrees_14 : decode cX7_meanTrees 14 = .ok (.iload_n 2, 1) := by decide +kernel
theorem dX7_meanTrees_15 : decode cX7_meanTrees 15 = .ok (.invokevirtual 131, 3) := by decide +kernel
theorem dX7_meanTrees_18 : decode cX7_meanTrees 18 = .ok (.iadd, 1) := by decide +kernel
theorem dX7_meanTrees_19 : decode cX7_meanTrees 19 = .ok (.istore_n 1, 1) := by decide +kernel
theorem dX7_meanTrees_20 : decode cX7_meanTrees 20 = .ok (.iinc 2 1, 3) := by decide +kernel
theorem dX7_meanTrees_23 : decode cX7_meanTrees 23 = .ok (.goto (-19), 3) := by decide +kernel
theorem dX7_meanTrees_26 : decode cX7_meanTrees 26 = .ok (.aload_n 0, 1) := by decide +kernel
theorem dX7_meanTrees_27 : decode cX7_meanTrees 27 = .ok (.aload_n 0, 1) := by decide +kernel
theorem dX7_meanTrees_28 : decode cX7_meanTrees 28 = .ok (.getfield 134, 3) := by decide +kernel
theorem dX7_meanTrees_31 : decode cX7_meanTrees 31 = .ok (.ifCond .ne 7, 3) := by decide +kernel
theorem dX7_meanTrees_34 : decode cX7_meanTrees 34 = .ok (.iconst 1, 1) := by decide +kernel
theorem dX7_meanTrees_35 : decode cX7_meanTrees 35 = .ok (.goto 4, 3) := by decide +kernel
theorem dX7_meanTrees_38 : decode cX7_meanTrees 38 = .ok (.iconst 0, 1) := by decide +kernel
theorem dX7_meanTrees_39 : decode cX7_meanTrees 39 = .ok (.putfield 60, 3) := by decide +kernel
theorem dX7_meanTrees_42 : decode cX7_meanTrees 42 = .ok (.aload_n 0, 1) := by decide +kernel
theorem dX7_meanTrees_43 : decode cX7_meanTrees 43 = .ok (.getfield 60, 3) := by decide +kernel
theorem dX7_meanTrees_46 : decode cX7_meanTrees 46 = .ok (.ifCond .ne 14, 3) := by decide +kernel
theorem dX7_meanTrees_49 : decode cX7_meanTrees 49 = .ok (.iload_n 1, 1) := by decide +kernel
theorem dX7_meanTrees_50 : decode cX7_meanTrees 50 = .ok (.i2d, 1) := by decide +kernel
theorem dX7_meanTrees_51 : decode cX7_meanTrees 51 = .ok (.aload_n 0, 1) := by decide +kernel
theorem dX7_meanTrees_52 : decode cX7_meanTrees 52 = .ok (.getfield 134, 3) := by decide +kernel
theorem dX7_meanTrees_55 : decode cX7_meanTrees 55 = .ok (.i2d, 1) := by decide +kernel
theorem dX7_meanTrees_56 : decode cX7_meanTrees 56 = .ok (.ddiv, 1) := by decide +kernel
theorem dX7_meanTrees_57 : decode cX7_meanTrees 57 = .ok (.goto 4, 3) := by decide +kernel
theorem dX7_meanTrees_60 : decode cX7_meanTrees 60 = .ok (.dconst 0, 1) := by decide +kernel
theorem dX7_meanTrees_61 : decode cX7_meanTrees 61 = .ok (.dreturn, 1) := by decide +kernel
theorem dX7_isSound_0 : decode cX7_isSound 0 = .ok (.aload_n 0, 1) := by decide +kernel
theorem dX7_isSound_1 : decode cX7_isSound 1 = .ok (.iconst 0, 1) := by decide +kernel
theorem dX7_isSound_2 : decode cX7_isSound 2 = .ok (.putfield 60, 3) := by decide +kernel
theorem dX7_isSound_5 : decode cX7_isSound 5 = .ok (.iconst 1, 1) := by decide +kernel
theorem dX7_isSound_6 : decode cX7_isSound 6 = .ok (.ireturn, 1) := by decide +kernel
end
section
theorem dL_addRule_0 : decode cL_addRule 0 = .ok (.aload 5, 2) := by decide +kernel
theorem dL_addRule_2 : decode cL_addRule 2 = .ok (.iconst 0, 1) := by decide +kernel
theorem dL_addRule_3 : decode cL_addRule 3 = .ok (.aload_n 0, 1) := by decide +kernel
theorem dL_addRule_4 : decode cL_addRule 4 = .ok (.iload_n 1, 1) := by decide +kernel
theorem dL_addRule_5 : decode cL_addRule 5 = .ok (.iload_n 2, 1) := by decide +kernel
theorem dL_addRule_6 : decode cL_addRule 6 = .ok (.iload_n 3, 1) := by decide +kernel
theorem dL_addRule_7 : decode cL_addRule 7 = .ok (.iload 4, 2) := by decide +kernel
theorem dL_addRule_9 : decode cL_addRule 9 = .ok (.invokevirtual 7, 3) := by decide +kernel
theorem dL_addRule_12 : decode cL_addRule 12 = .ok (.i2l, 1) := by decide +kernel
theorem dL_addRule_13 : decode cL_addRule 13 = .ok (.lastore, 1) := by decide +kernel
theorem dL_addRule_14 : decode cL_addRule 14 = .ok (.goto 11, 3) := by decide +kernel
theorem dL_addRule_17 : decode cL_addRule 17 = .ok (.astore 6, 2) := by decide +kernel
theorem dL_addRule_19 : decode cL_addRule 19 = .ok (.iconst 1, 1) := by decide +kernel
theorem dL_addRule_20 : decode cL_addRule 20 = .ok (.ireturn, 1) := by decide +kernel
theorem dL_addRule_21 : decode cL_addRule 21 = .ok (.astore 6, 2) := by decide +kernel
theorem dL_addRule_23 : decode cL_addRule 23 = .ok (.iconst 2, 1) := by decide +kernel
theorem dL_addRule_24 : decode cL_addRule 24 = .ok (.ireturn, 1) := by decide +kernel
theorem dL_addRule_25 : decode cL_addRule 25 = .ok (.iconst 0, 1) := by decide +kernel
theorem dL_addRule_26 : decode cL_addRule 26 = .ok (.ireturn, 1) := by decide +kernel
theorem dL_dropRule_0 : decode cL_dropRule 0 = .ok (.aload_n 2, 1) := by decide +kernel
theorem dL_dropRule_1 : decode cL_dropRule 1 = .ok (.iconst 0, 1) := by decide +kernel
theorem dL_dropRule_2 : decode cL_dropRule 2 = .ok (.aload_n 0, 1) := by decide +kernel
theorem dL_dropRule_3 : decode cL_dropRule 3 = .ok (.iload_n 1, 1) := by decide +kernel
theorem dL_dropRule_4 : decode cL_dropRule 4 = .ok (.invokevirtual 17, 3) := by decide +kernel
theorem dL_dropRule_7 : decode cL_dropRule 7 = .ok (.i2l, 1) := by decide +kernel
theorem dL_dropRule_8 : decode cL_dropRule 8 = .ok (.lastore, 1) := by decide +kernel
theorem dL_dropRule_9 : decode cL_dropRule 9 = .ok (.goto 6, 3) := by decide +kernel
theorem dL_dropRule_12 : decode cL_dropRule 12 = .ok (.astore_n 3, 1) := by decide +kernel
theorem dL_dropRule_13 : decode cL_dropRule 13 = .ok (.iconst 1, 1) := by decide +kernel
theorem dL_dropRule_14 : decode cL_dropRule 14 = .ok (.ireturn, 1) := by decide +kernel
theorem dL_dropRule_15 : decode cL_dropRule 15 = .ok (.iconst 0, 1) := by decide +kernel
theorem dL_dropRule_16 : decode cL_dropRule 16 = .ok (.ireturn, 1) := by decide +kernel
theorem dL_setRank_0 : decode cL_setRank 0 = .ok (.aload_n 3, 1) := by decide +kernel
theorem dL_setRank_1 : decode cL_setRank 1 = .ok (.iconst 0, 1) := by decide +kernel
theorem dL_setRank_2 : decode cL_setRank 2 = .ok (.aload_n 0, 1) := by decide +kernel
theorem dL_setRank_3 : decode cL_setRank 3 = .ok (.iload_n 1, 1) := by decide +kernel
theorem dL_setRank_4 : decode cL_setRank 4 = .ok (.iload_n 2, 1) := by decide +kernel
theorem dL_setRank_5 : decode cL_setRank 5 = .ok (.invokevirtual 23, 3) := by decide +kernel
theorem dL_setRank_8 : decode cL_setRank 8 = .ok (.i2l, 1) := by decide +kernel
theorem dL_setRank_9 : decode cL_setRank 9 = .ok (.lastore, 1) := by decide +kernel
theorem dL_setRank_10 : decode cL_setRank 10 = .ok (.goto 11, 3) := by decide +kernel
theorem dL_setRank_13 : decode cL_setRank 13 = .ok (.astore 4, 2) := by decide +kernel
theorem dL_setRank_15 : decode cL_setRank 15 = .ok (.iconst 1, 1) := by decide +kernel
theorem dL_setRank_16 : decode cL_setRank 16 = .ok (.ireturn, 1) := by decide +kernel
theorem dL_setRank_17 : decode cL_setRank 17 = .ok (.astore 4, 2) := by decide +kernel
theorem dL_setRank_19 : decode cL_setRank 19 = .ok (.iconst 2, 1) := by decide +kernel
theorem dL_setRank_20 : decode cL_setRank 20 = .ok (.ireturn, 1) := by decide +kernel
theorem dL_setRank_21 : decode cL_setRank 21 = .ok (.iconst 0, 1) := by decide +kernel
theorem dL_setRank_22 : decode cL_setRank 22 = .ok (.ireturn, 1) := by decide +kernel
theorem dL_setStyle_0 : decode cL_setStyle 0 = .ok (.aload 4, 2) := by decide +kernel
theorem dL_setStyle_2 : decode cL_setStyle 2 = .ok (.iconst 0, 1) := by decide +kernel
theorem dL_setStyle_3 : decode cL_setStyle 3 = .ok (.aload_n 0, 1) := by decide +kernel
theorem dL_setStyle_4 : decode cL_setStyle 4 = .ok (.iload_n 1, 1) := by decide +kernel
theorem dL_setStyle_5 : decode cL_setStyle 5 = .ok (.iload_n 2, 1) := by decide +kernel
theorem dL_setStyle_6 : decode cL_setStyle 6 = .ok (.iload_n 3, 1) := by decide +kernel
theorem dL_setStyle_7 : decode cL_setStyle 7 = .ok (.invokevirtual 27, 3) := by decide +kernel
theorem dL_setStyle_10 : decode cL_setStyle 10 = .ok (.i2l, 1) := by decide +kernel
theorem dL_setStyle_11 : decode cL_setStyle 11 = .ok (.lastore, 1) := by decide +kernel
theorem dL_setStyle_12 : decode cL_setStyle 12 = .ok (.goto 11, 3) := by decide +kernel
theorem dL_setStyle_15 : decode cL_setStyle 15 = .ok (.astore 5, 2) := by decide +kernel
theorem dL_setStyle_17 : decode cL_setStyle 17 = .ok (.iconst 1, 1) := by decide +kernel
theorem dL_setStyle_18 : decode cL_setStyle 18 = .ok (.ireturn, 1) := by decide +kernel
theorem dL_setStyle_19 : decode cL_setStyle 19 = .ok (.astore 5, 2) := by decide +kernel
theorem dL_setStyle_21 : decode cL_setStyle 21 = .ok (.iconst 2, 1) := by decide +kernel
theorem dL_setStyle_22 : decode cL_setStyle 22 = .ok (.ireturn, 1) := by decide +kernel
theorem dL_setStyle_23 : decode cL_setStyle 23 = .ok (.iconst 0, 1) := by decide +kernel
theorem dL_setStyle_24 : decode cL_setStyle 24 = .ok (.ireturn, 1) := by decide +kernel
theorem dL_addText_0 : decode cL_addText 0 = .ok (.aload_n 2, 1) := by decide +kernel
theorem dL_addText_1 : decode cL_addText 1 = .ok (.iconst 0, 1) := by decide +kernel
theorem dL_addText_2 : decode cL_addText 2 = .ok (.aload_n 0, 1) := by decide +kernel
theorem dL_addText_3 : decode cL_addText 3 = .ok (.iload_n 1, 1) := by decide +kernel
theorem dL_addText_4 : decode cL_addText 4 = .ok (.invokevirtual 31, 3) := by decide +kernel
theorem dL_addText_7 : decode cL_addText 7 = .ok (.i2l, 1) := by decide +kernel
theorem dL_addText_8 : decode cL_addText 8 = .ok (.lastore, 1) := by decide +kernel
theorem dL_addText_9 : decode cL_addText 9 = .ok (.goto 9, 3) := by decide +kernel
theorem dL_addText_12 : decode cL_addText 12 = .ok (.astore_n 3, 1) := by decide +kernel
theorem dL_addText_13 : decode cL_addText 13 = .ok (.iconst 1, 1) := by decide +kernel
theorem dL_addText_14 : decode cL_addText 14 = .ok (.ireturn, 1) := by decide +kernel
theorem dL_addText_15 : decode cL_addText 15 = .ok (.astore_n 3, 1) := by decide +kernel
theorem dL_addText_16 : decode cL_addText 16 = .ok (.iconst 2, 1) := by decide +kernel
theorem dL_addText_17 : decode cL_addText 17 = .ok (.ireturn, 1) := by decide +kernel
theorem dL_addText_18 : decode cL_addText 18 = .ok (.iconst 0, 1) := by decide +kernel
theorem dL_addText_19 : decode cL_addText 19 = .ok (.ireturn, 1) := by decide +kernel
theorem dL_addLetter_0 : decode cL_addLetter 0 = .ok (.aload_n 3, 1) := by decide +kernel
theorem dL_addLetter_1 : decode cL_addLetter 1 = .ok (.iconst 0, 1) := by decide +kernel
theorem dL_addLetter_2 : decode cL_addLetter 2 = .ok (.aload_n 0, 1) := by decide +kernel
theorem dL_addLetter_3 : decode cL_addLetter 3 = .ok (.iload_n 1, 1) := by decide +kernel
theorem dL_addLetter_4 : decode cL_addLetter 4 = .ok (.iload_n 2, 1) := by decide +kernel
theorem dL_addLetter_5 : decode cL_addLetter 5 = .ok (.invokevirtual 34, 3) := by decide +kernel
theorem dL_addLetter_8 : decode cL_addLetter 8 = .ok (.i2l, 1) := by decide +kernel
theorem dL_addLetter_9 : decode cL_addLetter 9 = .ok (.lastore, 1) := by decide +kernel
theorem dL_addLetter_10 : decode cL_addLetter 10 = .ok (.goto 15, 3) := by decide +kernel
theorem dL_addLetter_13 : decode cL_addLetter 13 = .ok (.astore 4, 2) := by decide +kernel
theorem dL_addLetter_15 : decode cL_addLetter 15 = .ok (.iconst 1, 1) := by decide +kernel
theorem dL_addLetter_16 : decode cL_addLetter 16 = .ok (.ireturn, 1) := by decide +kernel
theorem dL_addLetter_17 : decode cL_addLetter 17 = .ok (.astore 4, 2) := by decide +kernel
theorem dL_addLetter_19 : decode cL_addLetter 19 = .ok (.iconst 2, 1) := by decide +kernel
theorem dL_addLetter_20 : decode cL_addLetter 20 = .ok (.ireturn, 1) := by decide +kernel
theorem dL_addLetter_21 : decode cL_addLetter 21 = .ok (.astore 4, 2) := by decide +kernel
theorem dL_addLetter_23 : decode cL_addLetter 23 = .ok (.iconst 3, 1) := by decide +kernel
theorem dL_addLetter_24 : decode cL_addLetter 24 = .ok (.ireturn, 1) := by decide +kernel
theorem dL_addLetter_25 : decode cL_addLetter 25 = .ok (.iconst 0, 1) := by decide +kernel
theorem dL_addLetter_26 : decode cL_addLetter 26 = .ok (.ireturn, 1) := by decide +kernel
theorem dL_replace_0 : decode cL_replace 0 = .ok (.aload 4, 2) := by decide +kernel
theorem dL_replace_2 : decode cL_replace 2 = .ok (.iconst 0, 1) := by decide +kernel
theorem dL_replace_3 : decode cL_replace 3 = .ok (.aload_n 0, 1) := by decide +kernel
theorem dL_replace_4 : decode cL_replace 4 = .ok (.iload_n 1, 1) := by decide +kernel
theorem dL_replace_5 : decode cL_replace 5 = .ok (.iload_n 2, 1) := by decide +kernel
theorem dL_replace_6 : decode cL_replace 6 = .ok (.iload_n 3, 1) := by decide +kernel
theorem dL_replace_7 : decode cL_replace 7 = .ok (.invokevirtual 39, 3) := by decide +kernel
theorem dL_replace_10 : decode cL_replace 10 = .ok (.i2l, 1) := by decide +kernel
theorem dL_replace_11 : decode cL_replace 11 = .ok (.lastore, 1) := by decide +kernel
theorem dL_replace_12 : decode cL_replace 12 = .ok (.goto 11, 3) := by decide +kernel
theorem dL_replace_15 : decode cL_replace 15 = .ok (.astore 5, 2) := by decide +kernel
theorem dL_replace_17 : decode cL_replace 17 = .ok (.iconst 1, 1) := by decide +kernel
theorem dL_replace_18 : decode cL_replace 18 = .ok (.ireturn, 1) := by decide +kernel
theorem dL_replace_19 : decode cL_replace 19 = .ok (.astore 5, 2) := by decide +kernel
theorem dL_replace_21 : decode cL_replace 21 = .ok (.iconst 2, 1) := by decide +kernel
theorem dL_replace_22 : decode cL_replace 22 = .ok (.ireturn, 1) := by decide +kernel
theorem dL_replace_23 : decode cL_replace 23 = .ok (.iconst 0, 1) := by decide +kernel
theorem dL_replace_24 : decode cL_replace 24 = .ok (.ireturn, 1) := by decide +kernel
theorem dL_length_0 : decode cL_length 0 = .ok (.aload_n 2, 1) := by decide +kernel
theorem dL_length_1 : decode cL_length 1 = .ok (.iconst 0, 1) := by decide +kernel
theorem dL_length_2 : decode cL_length 2 = .ok (.aload_n 0, 1) := by decide +kernel
theorem dL_length_3 : decode cL_length 3 = .ok (.iload_n 1, 1) := by decide +kernel
theorem dL_length_4 : decode cL_length 4 = .ok (.invokevirtual 42, 3) := by decide +kernel
theorem dL_length_7 : decode cL_length 7 = .ok (.i2l, 1) := by decide +kernel
theorem dL_length_8 : decode cL_length 8 = .ok (.lastore, 1) := by decide +kernel
theorem dL_length_9 : decode cL_length 9 = .ok (.goto 6, 3) := by decide +kernel
theorem dL_length_12 : decode cL_length 12 = .ok (.astore_n 3, 1) := by decide +kernel
theorem dL_length_13 : decode cL_length 13 = .ok (.iconst 1, 1) := by decide +kernel
theorem dL_length_14 : decode cL_length 14 = .ok (.ireturn, 1) := by decide +kernel
theorem dL_length_15 : decode cL_length 15 = .ok (.iconst 0, 1) := by decide +kernel
theorem dL_length_16 : decode cL_length 16 = .ok (.ireturn, 1) := by decide +kernel
theorem dL_letterAt_0 : decode cL_letterAt 0 = .ok (.aload_n 3, 1) := by decide +kernel
theorem dL_letterAt_1 : decode cL_letterAt 1 = .ok (.iconst 0, 1) := by decide +kernel
theorem dL_letterAt_2 : decode cL_letterAt 2 = .ok (.aload_n 0, 1) := by decide +kernel
theorem dL_letterAt_3 : decode cL_letterAt 3 = .ok (.iload_n 1, 1) := by decide +kernel
theorem dL_letterAt_4 : decode cL_letterAt 4 = .ok (.iload_n 2, 1) := by decide +kernel
theorem dL_letterAt_5 : decode cL_letterAt 5 = .ok (.invokevirtual 45, 3) := by decide +kernel
theorem dL_letterAt_8 : decode cL_letterAt 8 = .ok (.i2l, 1) := by decide +kernel
theorem dL_letterAt_9 : decode cL_letterAt 9 = .ok (.lastore, 1) := by decide +kernel
theorem dL_letterAt_10 : decode cL_letterAt 10 = .ok (.goto 7, 3) := by decide +kernel
theorem dL_letterAt_13 : decode cL_letterAt 13 = .ok (.astore 4, 2) := by decide +kernel
theorem dL_letterAt_15 : decode cL_letterAt 15 = .ok (.iconst 1, 1) := by decide +kernel
theorem dL_letterAt_16 : decode cL_letterAt 16 = .ok (.ireturn, 1) := by decide +kernel
theorem dL_letterAt_17 : decode cL_letterAt 17 = .ok (.iconst 0, 1) := by decide +kernel
theorem dL_letterAt_18 : decode cL_letterAt 18 = .ok (.ireturn, 1) := by decide +kernel
theorem dL_trees_0 : decode cL_trees 0 = .ok (.aload_n 2, 1) := by decide +kernel
theorem dL_trees_1 : decode cL_trees 1 = .ok (.iconst 0, 1) := by decide +kernel
theorem dL_trees_2 : decode cL_trees 2 = .ok (.aload_n 0, 1) := by decide +kernel
theorem dL_trees_3 : decode cL_trees 3 = .ok (.iload_n 1, 1) := by decide +kernel
theorem dL_trees_4 : decode cL_trees 4 = .ok (.invokevirtual 48, 3) := by decide +kernel
theorem dL_trees_7 : decode cL_trees 7 = .ok (.i2l, 1) := by decide +kernel
theorem dL_trees_8 : decode cL_trees 8 = .ok (.lastore, 1) := by decide +kernel
theorem dL_trees_9 : decode cL_trees 9 = .ok (.goto 6, 3) := by decide +kernel
theorem dL_trees_12 : decode cL_trees 12 = .ok (.astore_n 3, 1) := by decide +kernel
theorem dL_trees_13 : decode cL_trees 13 = .ok (.iconst 1, 1) := by decide +kernel
theorem dL_trees_14 : decode cL_trees 14 = .ok (.ireturn, 1) := by decide +kernel
theorem dL_trees_15 : decode cL_trees 15 = .ok (.iconst 0, 1) := by decide +kernel
theorem dL_trees_16 : decode cL_trees 16 = .ok (.ireturn, 1) := by decide +kernel
theorem dL_treesByTrying_0 : decode cL_treesByTrying 0 = .ok (.aload_n 2, 1) := by decide +kernel
theorem dL_treesByTrying_1 : decode cL_treesByTrying 1 = .ok (.iconst 0, 1) := by decide +kernel
theorem dL_treesByTrying_2 : decode cL_treesByTrying 2 = .ok (.aload_n 0, 1) := by decide +kernel
theorem dL_treesByTrying_3 : decode cL_treesByTrying 3 = .ok (.iload_n 1, 1) := by decide +kernel
theorem dL_treesByTrying_4 : decode cL_treesByTrying 4 = .ok (.invokevirtual 51, 3) := by decide +kernel
theorem dL_treesByTrying_7 : decode cL_treesByTrying 7 = .ok (.i2l, 1) := by decide +kernel
theorem dL_treesByTrying_8 : decode cL_treesByTrying 8 = .ok (.lastore, 1) := by decide +kernel
theorem dL_treesByTrying_9 : decode cL_treesByTrying 9 = .ok (.goto 9, 3) := by decide +kernel
theorem dL_treesByTrying_12 : decode cL_treesByTrying 12 = .ok (.astore_n 3, 1) := by decide +kernel
theorem dL_treesByTrying_13 : decode cL_treesByTrying 13 = .ok (.iconst 1, 1) := by decide +kernel
theorem dL_treesByTrying_14 : decode cL_treesByTrying 14 = .ok (.ireturn, 1) := by decide +kernel
theorem dL_treesByTrying_15 : decode cL_treesByTrying 15 = .ok (.astore_n 3, 1) := by decide +kernel
theorem dL_treesByTrying_16 : decode cL_treesByTrying 16 = .ok (.iconst 2, 1) := by decide +kernel
theorem dL_treesByTrying_17 : decode cL_treesByTrying 17 = .ok (.ireturn, 1) := by decide +kernel
theorem dL_treesByTrying_18 : decode cL_treesByTrying 18 = .ok (.iconst 0, 1) := by decide +kernel
theorem dL_treesByTrying_19 : decode cL_treesByTrying 19 = .ok (.ireturn, 1) := by decide +kernel
theorem dL_treesOver_0 : decode cL_treesOver 0 = .ok (.aload 5, 2) := by decide +kernel
theorem dL_treesOver_2 : decode cL_treesOver 2 = .ok (.iconst 0, 1) := by decide +kernel
theorem dL_treesOver_3 : decode cL_treesOver 3 = .ok (.aload_n 0, 1) := by decide +kernel
theorem dL_treesOver_4 : decode cL_treesOver 4 = .ok (.iload_n 1, 1) := by decide +kernel
theorem dL_treesOver_5 : decode cL_treesOver 5 = .ok (.iload_n 2, 1) := by decide +kernel
theorem dL_treesOver_6 : decode cL_treesOver 6 = .ok (.iload_n 3, 1) := by decide +kernel
theorem dL_treesOver_7 : decode cL_treesOver 7 = .ok (.iload 4, 2) := by decide +kernel
theorem dL_treesOver_9 : decode cL_treesOver 9 = .ok (.invokevirtual 56, 3) := by decide +kernel
theorem dL_treesOver_12 : decode cL_treesOver 12 = .ok (.i2l, 1) := by decide +kernel
theorem dL_treesOver_13 : decode cL_treesOver 13 = .ok (.lastore, 1) := by decide +kernel
theorem dL_treesOver_14 : decode cL_treesOver 14 = .ok (.goto 11, 3) := by decide +kernel
theorem dL_treesOver_17 : decode cL_treesOver 17 = .ok (.astore 6, 2) := by decide +kernel
theorem dL_treesOver_19 : decode cL_treesOver 19 = .ok (.iconst 1, 1) := by decide +kernel
theorem dL_treesOver_20 : decode cL_treesOver 20 = .ok (.ireturn, 1) := by decide +kernel
theorem dL_treesOver_21 : decode cL_treesOver 21 = .ok (.astore 6, 2) := by decide +kernel
theorem dL_treesOver_23 : decode cL_treesOver 23 = .ok (.iconst 2, 1) := by decide +kernel
theorem dL_treesOver_24 : decode cL_treesOver 24 = .ok (.ireturn, 1) := by decide +kernel
theorem dL_treesOver_25 : decode cL_treesOver 25 = .ok (.iconst 0, 1) := by decide +kernel
theorem dL_treesOver_26 : decode cL_treesOver 26 = .ok (.ireturn, 1) := by decide +kernel
theorem dL_size_0 : decode cL_size 0 = .ok (.aload_n 2, 1) := by decide +kernel
theorem dL_size_1 : decode cL_size 1 = .ok (.iconst 0, 1) := by decide +kernel
theorem dL_size_2 : decode cL_size 2 = .ok (.aload_n 0, 1) := by decide +kernel
theorem dL_size_3 : decode cL_size 3 = .ok (.iload_n 1, 1) := by decide +kernel
theorem dL_size_4 : decode cL_size 4 = .ok (.invokevirtual 59, 3) := by decide +kernel
theorem dL_size_7 : decode cL_size 7 = .ok (.i2l, 1) := by decide +kernel
theorem dL_size_8 : decode cL_size 8 = .ok (.lastore, 1) := by decide +kernel
theorem dL_size_9 : decode cL_size 9 = .ok (.goto 6, 3) := by decide +kernel
theorem dL_size_12 : decode cL_size 12 = .ok (.astore_n 3, 1) := by decide +kernel
theorem dL_size_13 : decode cL_size 13 = .ok (.iconst 1, 1) := by decide +kernel
theorem dL_size_14 : decode cL_size 14 = .ok (.ireturn, 1) := by decide +kernel
theorem dL_size_15 : decode cL_size 15 = .ok (.iconst 0, 1) := by decide +kernel
theorem dL_size_16 : decode cL_size 16 = .ok (.ireturn, 1) := by decide +kernel
theorem dL_ruleAt_0 : decode cL_ruleAt 0 = .ok (.aload_n 3, 1) := by decide +kernel
theorem dL_ruleAt_1 : decode cL_ruleAt 1 = .ok (.iconst 0, 1) := by decide +kernel
theorem dL_ruleAt_2 : decode cL_ruleAt 2 = .ok (.aload_n 0, 1) := by decide +kernel
theorem dL_ruleAt_3 : decode cL_ruleAt 3 = .ok (.iload_n 1, 1) := by decide +kernel
theorem dL_ruleAt_4 : decode cL_ruleAt 4 = .ok (.iload_n 2, 1) := by decide +kernel
theorem dL_ruleAt_5 : decode cL_ruleAt 5 = .ok (.invokevirtual 62, 3) := by decide +kernel
theorem dL_ruleAt_8 : decode cL_ruleAt 8 = .ok (.i2l, 1) := by decide +kernel
theorem dL_ruleAt_9 : decode cL_ruleAt 9 = .ok (.lastore, 1) := by decide +kernel
theorem dL_ruleAt_10 : decode cL_ruleAt 10 = .ok (.goto 11, 3) := by decide +kernel
theorem dL_ruleAt_13 : decode cL_ruleAt 13 = .ok (.astore 4, 2) := by decide +kernel
theorem dL_ruleAt_15 : decode cL_ruleAt 15 = .ok (.iconst 1, 1) := by decide +kernel
theorem dL_ruleAt_16 : decode cL_ruleAt 16 = .ok (.ireturn, 1) := by decide +kernel
theorem dL_ruleAt_17 : decode cL_ruleAt 17 = .ok (.astore 4, 2) := by decide +kernel
theorem dL_ruleAt_19 : decode cL_ruleAt 19 = .ok (.iconst 2, 1) := by decide +kernel
theorem dL_ruleAt_20 : decode cL_ruleAt 20 = .ok (.ireturn, 1) := by decide +kernel
theorem dL_ruleAt_21 : decode cL_ruleAt 21 = .ok (.iconst 0, 1) := by decide +kernel
theorem dL_ruleAt_22 : decode cL_ruleAt 22 = .ok (.ireturn, 1) := by decide +kernel
theorem dL_depth_0 : decode cL_depth 0 = .ok (.aload_n 2, 1) := by decide +kernel
theorem dL_depth_1 : decode cL_depth 1 = .ok (.iconst 0, 1) := by decide +kernel
theorem dL_depth_2 : decode cL_depth 2 = .ok (.aload_n 0, 1) := by decide +kernel
theorem dL_depth_3 : decode cL_depth 3 = .ok (.iload_n 1, 1) := by decide +kernel
theorem dL_depth_4 : decode cL_depth 4 = .ok (.invokevirtual 65, 3) := by decide +kernel
theorem dL_depth_7 : decode cL_depth 7 = .ok (.i2l, 1) := by decide +kernel
theorem dL_depth_8 : decode cL_depth 8 = .ok (.lastore, 1) := by decide +kernel
theorem dL_depth_9 : decode cL_depth 9 = .ok (.goto 6, 3) := by decide +kernel
theorem dL_depth_12 : decode cL_depth 12 = .ok (.astore_n 3, 1) := by decide +kernel
theorem dL_depth_13 : decode cL_depth 13 = .ok (.iconst 1, 1) := by decide +kernel
theorem dL_depth_14 : decode cL_depth 14 = .ok (.ireturn, 1) := by decide +kernel
theorem dL_depth_15 : decode cL_depth 15 = .ok (.iconst 0, 1) := by decide +kernel
theorem dL_depth_16 : decode cL_depth 16 = .ok (.ireturn, 1) := by decide +kernel
theorem dL_colourAt_0 : decode cL_colourAt 0 = .ok (.aload_n 3, 1) := by decide +kernel
theorem dL_colourAt_1 : decode cL_colourAt 1 = .ok (.iconst 0, 1) := by decide +kernel
theorem dL_colourAt_2 : decode cL_colourAt 2 = .ok (.aload_n 0, 1) := by decide +kernel
theorem dL_colourAt_3 : decode cL_colourAt 3 = .ok (.iload_n 1, 1) := by decide +kernel
theorem dL_colourAt_4 : decode cL_colourAt 4 = .ok (.iload_n 2, 1) := by decide +kernel
theorem dL_colourAt_5 : decode cL_colourAt 5 = .ok (.invokevirtual 68, 3) := by decide +kernel
theorem dL_colourAt_8 : decode cL_colourAt 8 = .ok (.i2l, 1) := by decide +kernel
theorem dL_colourAt_9 : decode cL_colourAt 9 = .ok (.lastore, 1) := by decide +kernel
theorem dL_colourAt_10 : decode cL_colourAt 10 = .ok (.goto 7, 3) := by decide +kernel
theorem dL_colourAt_13 : decode cL_colourAt 13 = .ok (.astore 4, 2) := by decide +kernel
theorem dL_colourAt_15 : decode cL_colourAt 15 = .ok (.iconst 1, 1) := by decide +kernel
theorem dL_colourAt_16 : decode cL_colourAt 16 = .ok (.ireturn, 1) := by decide +kernel
theorem dL_colourAt_17 : decode cL_colourAt 17 = .ok (.iconst 0, 1) := by decide +kernel
theorem dL_colourAt_18 : decode cL_colourAt 18 = .ok (.ireturn, 1) := by decide +kernel
theorem dL_formatted_0 : decode cL_formatted 0 = .ok (.aload_n 2, 1) := by decide +kernel
theorem dL_formatted_1 : decode cL_formatted 1 = .ok (.iconst 0, 1) := by decide +kernel
theorem dL_formatted_2 : decode cL_formatted 2 = .ok (.aload_n 0, 1) := by decide +kernel
theorem dL_formatted_3 : decode cL_formatted 3 = .ok (.iload_n 1, 1) := by decide +kernel
theorem dL_formatted_4 : decode cL_formatted 4 = .ok (.invokevirtual 71, 3) := by decide +kernel
theorem dL_formatted_7 : decode cL_formatted 7 = .ok (.i2l, 1) := by decide +kernel
theorem dL_formatted_8 : decode cL_formatted 8 = .ok (.lastore, 1) := by decide +kernel
theorem dL_formatted_9 : decode cL_formatted 9 = .ok (.goto 6, 3) := by decide +kernel
theorem dL_formatted_12 : decode cL_formatted 12 = .ok (.astore_n 3, 1) := by decide +kernel
theorem dL_formatted_13 : decode cL_formatted 13 = .ok (.iconst 1, 1) := by decide +kernel
theorem dL_formatted_14 : decode cL_formatted 14 = .ok (.ireturn, 1) := by decide +kernel
theorem dL_formatted_15 : decode cL_formatted 15 = .ok (.iconst 0, 1) := by decide +kernel
theorem dL_formatted_16 : decode cL_formatted 16 = .ok (.ireturn, 1) := by decide +kernel
theorem dL_formattedAt_0 : decode cL_formattedAt 0 = .ok (.aload_n 3, 1) := by decide +kernel
theorem dL_formattedAt_1 : decode cL_formattedAt 1 = .ok (.iconst 0, 1) := by decide +kernel
theorem dL_formattedAt_2 : decode cL_formattedAt 2 = .ok (.aload_n 0, 1) := by decide +kernel
theorem dL_formattedAt_3 : decode cL_formattedAt 3 = .ok (.iload_n 1, 1) := by decide +kernel
theorem dL_formattedAt_4 : decode cL_formattedAt 4 = .ok (.iload_n 2, 1) := by decide +kernel
theorem dL_formattedAt_5 : decode cL_formattedAt 5 = .ok (.invokevirtual 74, 3) := by decide +kernel
theorem dL_formattedAt_8 : decode cL_formattedAt 8 = .ok (.i2l, 1) := by decide +kernel
theorem dL_formattedAt_9 : decode cL_formattedAt 9 = .ok (.lastore, 1) := by decide +kernel
theorem dL_formattedAt_10 : decode cL_formattedAt 10 = .ok (.goto 11, 3) := by decide +kernel
theorem dL_formattedAt_13 : decode cL_formattedAt 13 = .ok (.astore 4, 2) := by decide +kernel
theorem dL_formattedAt_15 : decode cL_formattedAt 15 = .ok (.iconst 1, 1) := by decide +kernel
theorem dL_formattedAt_16 : decode cL_formattedAt 16 = .ok (.ireturn, 1) := by decide +kernel
theorem dL_formattedAt_17 : decode cL_formattedAt 17 = .ok (.astore 4, 2) := by decide +kernel
theorem dL_formattedAt_19 : decode cL_formattedAt 19 = .ok (.iconst 2, 1) := by decide +kernel
theorem dL_formattedAt_20 : decode cL_formattedAt 20 = .ok (.ireturn, 1) := by decide +kernel
theorem dL_formattedAt_21 : decode cL_formattedAt 21 = .ok (.iconst 0, 1) := by decide +kernel
theorem dL_formattedAt_22 : decode cL_formattedAt 22 = .ok (.ireturn, 1) := by decide +kernel
theorem dL_accept_0 : decode cL_accept 0 = .ok (.aload_n 2, 1) := by decide +kernel
theorem dL_accept_1 : decode cL_accept 1 = .ok (.iconst 0, 1) := by decide +kernel
theorem dL_accept_2 : decode cL_accept 2 = .ok (.aload_n 0, 1) := by decide +kernel
theorem dL_accept_3 : decode cL_accept 3 = .ok (.iload_n 1, 1) := by decide +kernel
theorem dL_accept_4 : decode cL_accept 4 = .ok (.invokevirtual 78, 3) := by decide +kernel
theorem dL_accept_7 : decode cL_accept 7 = .ok (.i2l, 1) := by decide +kernel
theorem dL_accept_8 : decode cL_accept 8 = .ok (.lastore, 1) := by decide +kernel
theorem dL_accept_9 : decode cL_accept 9 = .ok (.goto 9, 3) := by decide +kernel
theorem dL_accept_12 : decode cL_accept 12 = .ok (.astore_n 3, 1) := by decide +kernel
theorem dL_accept_13 : decode cL_accept 13 = .ok (.iconst 1, 1) := by decide +kernel
theorem dL_accept_14 : decode cL_accept 14 = .ok (.ireturn, 1) := by decide +kernel
theorem dL_accept_15 : decode cL_accept 15 = .ok (.astore_n 3, 1) := by decide +kernel
theorem dL_accept_16 : decode cL_accept 16 = .ok (.iconst 2, 1) := by decide +kernel
theorem dL_accept_17 : decode cL_accept 17 = .ok (.ireturn, 1) := by decide +kernel
theorem dL_accept_18 : decode cL_accept 18 = .ok (.iconst 0, 1) := by decide +kernel
theorem dL_accept_19 : decode cL_accept 19 = .ok (.ireturn, 1) := by decide +kernel
theorem dL_fault_0 : decode cL_fault 0 = .ok (.aload_n 2, 1) := by decide +kernel
theorem dL_fault_1 : decode cL_fault 1 = .ok (.iconst 0, 1) := by decide +kernel
theorem dL_fault_2 : decode cL_fault 2 = .ok (.aload_n 0, 1) := by decide +kernel
theorem dL_fault_3 : decode cL_fault 3 = .ok (.iload_n 1, 1) := by decide +kernel
theorem dL_fault_4 : decode cL_fault 4 = .ok (.invokevirtual 81, 3) := by decide +kernel
theorem dL_fault_7 : decode cL_fault 7 = .ok (.i2l, 1) := by decide +kernel
theorem dL_fault_8 : decode cL_fault 8 = .ok (.lastore, 1) := by decide +kernel
theorem dL_fault_9 : decode cL_fault 9 = .ok (.goto 6, 3) := by decide +kernel
theorem dL_fault_12 : decode cL_fault 12 = .ok (.astore_n 3, 1) := by decide +kernel
theorem dL_fault_13 : decode cL_fault 13 = .ok (.iconst 1, 1) := by decide +kernel
theorem dL_fault_14 : decode cL_fault 14 = .ok (.ireturn, 1) := by decide +kernel
theorem dL_fault_15 : decode cL_fault 15 = .ok (.iconst 0, 1) := by decide +kernel
theorem dL_fault_16 : decode cL_fault 16 = .ok (.ireturn, 1) := by decide +kernel
theorem dL_release_0 : decode cL_release 0 = .ok (.aload_n 1, 1) := by decide +kernel
theorem dL_release_1 : decode cL_release 1 = .ok (.iconst 0, 1) := by decide +kernel
theorem dL_release_2 : decode cL_release 2 = .ok (.aload_n 0, 1) := by decide +kernel
theorem dL_release_3 : decode cL_release 3 = .ok (.invokevirtual 85, 3) := by decide +kernel
theorem dL_release_6 : decode cL_release 6 = .ok (.i2l, 1) := by decide +kernel
theorem dL_release_7 : decode cL_release 7 = .ok (.lastore, 1) := by decide +kernel
theorem dL_release_8 : decode cL_release 8 = .ok (.goto 9, 3) := by decide +kernel
theorem dL_release_11 : decode cL_release 11 = .ok (.astore_n 2, 1) := by decide +kernel
theorem dL_release_12 : decode cL_release 12 = .ok (.iconst 1, 1) := by decide +kernel
theorem dL_release_13 : decode cL_release 13 = .ok (.ireturn, 1) := by decide +kernel
theorem dL_release_14 : decode cL_release 14 = .ok (.astore_n 2, 1) := by decide +kernel
theorem dL_release_15 : decode cL_release 15 = .ok (.iconst 2, 1) := by decide +kernel
theorem dL_release_16 : decode cL_release 16 = .ok (.ireturn, 1) := by decide +kernel
theorem dL_release_17 : decode cL_release 17 = .ok (.iconst 0, 1) := by decide +kernel
theorem dL_release_18 : decode cL_release 18 = .ok (.ireturn, 1) := by decide +kernel
theorem dL_ambiguous_0 : decode cL_ambiguous 0 = .ok (.aload_n 3, 1) := by decide +kernel
theorem dL_ambiguous_1 : decode cL_ambiguous 1 = .ok (.iconst 0, 1) := by decide +kernel
theorem dL_ambiguous_2 : decode cL_ambiguous 2 = .ok (.aload_n 0, 1) := by decide +kernel
theorem dL_ambiguous_3 : decode cL_ambiguous 3 = .ok (.iload_n 1, 1) := by decide +kernel
theorem dL_ambiguous_4 : decode cL_ambiguous 4 = .ok (.iload_n 2, 1) := by decide +kernel
theorem dL_ambiguous_5 : decode cL_ambiguous 5 = .ok (.invokevirtual 89, 3) := by decide +kernel
theorem dL_ambiguous_8 : decode cL_ambiguous 8 = .ok (.i2l, 1) := by decide +kernel
theorem dL_ambiguous_9 : decode cL_ambiguous 9 = .ok (.lastore, 1) := by decide +kernel
theorem dL_ambiguous_10 : decode cL_ambiguous 10 = .ok (.goto 11, 3) := by decide +kernel
theorem dL_ambiguous_13 : decode cL_ambiguous 13 = .ok (.astore 4, 2) := by decide +kernel
theorem dL_ambiguous_15 : decode cL_ambiguous 15 = .ok (.iconst 1, 1) := by decide +kernel
theorem dL_ambiguous_16 : decode cL_ambiguous 16 = .ok (.ireturn, 1) := by decide +kernel
theorem dL_ambiguous_17 : decode cL_ambiguous 17 = .ok (.astore 4, 2) := by decide +kernel
theorem dL_ambiguous_19 : decode cL_ambiguous 19 = .ok (.iconst 2, 1) := by decide +kernel
theorem dL_ambiguous_20 : decode cL_ambiguous 20 = .ok (.ireturn, 1) := by decide +kernel
theorem dL_ambiguous_21 : decode cL_ambiguous 21 = .ok (.iconst 0, 1) := by decide +kernel
theorem dL_ambiguous_22 : decode cL_ambiguous 22 = .ok (.ireturn, 1) := by decide +kernel
theorem dL_ambiguousAt_0 : decode cL_ambiguousAt 0 = .ok (.aload 4, 2) := by decide +kernel
theorem dL_ambiguousAt_2 : decode cL_ambiguousAt 2 = .ok (.iconst 0, 1) := by decide +kernel
theorem dL_ambiguousAt_3 : decode cL_ambiguousAt 3 = .ok (.aload_n 0, 1) := by decide +kernel
theorem dL_ambiguousAt_4 : decode cL_ambiguousAt 4 = .ok (.iload_n 1, 1) := by decide +kernel
theorem dL_ambiguousAt_5 : decode cL_ambiguousAt 5 = .ok (.iload_n 2, 1) := by decide +kernel
theorem dL_ambiguousAt_6 : decode cL_ambiguousAt 6 = .ok (.iload_n 3, 1) := by decide +kernel
theorem dL_ambiguousAt_7 : decode cL_ambiguousAt 7 = .ok (.invokevirtual 92, 3) := by decide +kernel
theorem dL_ambiguousAt_10 : decode cL_ambiguousAt 10 = .ok (.i2l, 1) := by decide +kernel
theorem dL_ambiguousAt_11 : decode cL_ambiguousAt 11 = .ok (.lastore, 1) := by decide +kernel
theorem dL_ambiguousAt_12 : decode cL_ambiguousAt 12 = .ok (.goto 11, 3) := by decide +kernel
theorem dL_ambiguousAt_15 : decode cL_ambiguousAt 15 = .ok (.astore 5, 2) := by decide +kernel
theorem dL_ambiguousAt_17 : decode cL_ambiguousAt 17 = .ok (.iconst 1, 1) := by decide +kernel
theorem dL_ambiguousAt_18 : decode cL_ambiguousAt 18 = .ok (.ireturn, 1) := by decide +kernel
theorem dL_ambiguousAt_19 : decode cL_ambiguousAt 19 = .ok (.astore 5, 2) := by decide +kernel
theorem dL_ambiguousAt_21 : decode cL_ambiguousAt 21 = .ok (.iconst 2, 1) := by decide +kernel
theorem dL_ambiguousAt_22 : decode cL_ambiguousAt 22 = .ok (.ireturn, 1) := by decide +kernel
theorem dL_ambiguousAt_23 : decode cL_ambiguousAt 23 = .ok (.iconst 0, 1) := by decide +kernel
theorem dL_ambiguousAt_24 : decode cL_ambiguousAt 24 = .ok (.ireturn, 1) := by decide +kernel
theorem dL_cleanShare_0 : decode cL_cleanShare 0 = .ok (.aload_n 1, 1) := by decide +kernel
theorem dL_cleanShare_1 : decode cL_cleanShare 1 = .ok (.iconst 0, 1) := by decide +kernel
theorem dL_cleanShare_2 : decode cL_cleanShare 2 = .ok (.aload_n 0, 1) := by decide +kernel
theorem dL_cleanShare_3 : decode cL_cleanShare 3 = .ok (.invokevirtual 95, 3) := by decide +kernel
theorem dL_cleanShare_6 : decode cL_cleanShare 6 = .ok (.f2d, 1) := by decide +kernel
theorem dL_cleanShare_7 : decode cL_cleanShare 7 = .ok (.dastore, 1) := by decide +kernel
theorem dL_cleanShare_8 : decode cL_cleanShare 8 = .ok (.goto 6, 3) := by decide +kernel
theorem dL_cleanShare_11 : decode cL_cleanShare 11 = .ok (.astore_n 2, 1) := by decide +kernel
theorem dL_cleanShare_12 : decode cL_cleanShare 12 = .ok (.iconst 1, 1) := by decide +kernel
theorem dL_cleanShare_13 : decode cL_cleanShare 13 = .ok (.ireturn, 1) := by decide +kernel
theorem dL_cleanShare_14 : decode cL_cleanShare 14 = .ok (.iconst 0, 1) := by decide +kernel
theorem dL_cleanShare_15 : decode cL_cleanShare 15 = .ok (.ireturn, 1) := by decide +kernel
theorem dL_meanTrees_0 : decode cL_meanTrees 0 = .ok (.aload_n 1, 1) := by decide +kernel
theorem dL_meanTrees_1 : decode cL_meanTrees 1 = .ok (.iconst 0, 1) := by decide +kernel
theorem dL_meanTrees_2 : decode cL_meanTrees 2 = .ok (.aload_n 0, 1) := by decide +kernel
theorem dL_meanTrees_3 : decode cL_meanTrees 3 = .ok (.invokevirtual 101, 3) := by decide +kernel
theorem dL_meanTrees_6 : decode cL_meanTrees 6 = .ok (.dastore, 1) := by decide +kernel
theorem dL_meanTrees_7 : decode cL_meanTrees 7 = .ok (.goto 6, 3) := by decide +kernel
theorem dL_meanTrees_10 : decode cL_meanTrees 10 = .ok (.astore_n 2, 1) := by decide +kernel
theorem dL_meanTrees_11 : decode cL_meanTrees 11 = .ok (.iconst 1, 1) := by decide +kernel
theorem dL_meanTrees_12 : decode cL_meanTrees 12 = .ok (.ireturn, 1) := by decide +kernel
theorem dL_meanTrees_13 : decode cL_meanTrees 13 = .ok (.iconst 0, 1) := by decide +kernel
theorem dL_meanTrees_14 : decode cL_meanTrees 14 = .ok (.ireturn, 1) := by decide +kernel
theorem dL_law_0 : decode cL_law 0 = .ok (.new 8, 3) := by decide +kernel
theorem dL_law_3 : decode cL_law 3 = .ok (.dup, 1) := by decide +kernel
theorem dL_law_4 : decode cL_law 4 = .ok (.invokespecial 105, 3) := by decide +kernel
theorem dL_law_7 : decode cL_law 7 = .ok (.astore_n 1, 1) := by decide +kernel
theorem dL_law_8 : decode cL_law 8 = .ok (.new 106, 3) := by decide +kernel
theorem dL_law_11 : decode cL_law 11 = .ok (.dup, 1) := by decide +kernel
theorem dL_law_12 : decode cL_law 12 = .ok (.invokespecial 108, 3) := by decide +kernel
theorem dL_law_15 : decode cL_law 15 = .ok (.astore_n 2, 1) := by decide +kernel
theorem dL_law_16 : decode cL_law 16 = .ok (.iconst 1, 1) := by decide +kernel
theorem dL_law_17 : decode cL_law 17 = .ok (.newarray .long, 2) := by decide +kernel
theorem dL_law_19 : decode cL_law 19 = .ok (.astore_n 3, 1) := by decide +kernel
theorem dL_law_20 : decode cL_law 20 = .ok (.iconst 1, 1) := by decide +kernel
theorem dL_law_21 : decode cL_law 21 = .ok (.newarray .double, 2) := by decide +kernel
theorem dL_law_23 : decode cL_law 23 = .ok (.astore 4, 2) := by decide +kernel
theorem dL_law_25 : decode cL_law 25 = .ok (.iconst 0, 1) := by decide +kernel
theorem dL_law_26 : decode cL_law 26 = .ok (.istore 5, 2) := by decide +kernel
theorem dL_law_28 : decode cL_law 28 = .ok (.iload 5, 2) := by decide +kernel
theorem dL_law_30 : decode cL_law 30 = .ok (.aload_n 0, 1) := by decide +kernel
theorem dL_law_31 : decode cL_law 31 = .ok (.arraylength, 1) := by decide +kernel
theorem dL_law_32 : decode cL_law 32 = .ok (.iconst 5, 1) := by decide +kernel
theorem dL_law_33 : decode cL_law 33 = .ok (.isub, 1) := by decide +kernel
theorem dL_law_34 : decode cL_law 34 = .ok (.if_icmp .gt 1819, 3) := by decide +kernel
theorem dL_law_37 : decode cL_law 37 = .ok (.aload_n 0, 1) := by decide +kernel
theorem dL_law_38 : decode cL_law 38 = .ok (.iload 5, 2) := by decide +kernel
theorem dL_law_40 : decode cL_law 40 = .ok (.iaload, 1) := by decide +kernel
theorem dL_law_41 : decode cL_law 41 = .ok (.bipush 31, 2) := by decide +kernel
theorem dL_law_43 : decode cL_law 43 = .ok (.iand, 1) := by decide +kernel
theorem dL_law_44 : decode cL_law 44 = .ok (.tableswitch 1803 0 27 #[128, 220, 276, 344, 424, 437, 493, 561, 641, 697, 765, 821, 877, 969, 1025, 1093, 1149, 1217, 1273, 1341, 1397, 1453, 1497, 1565, 1645, 1659, 1725, 1790], 128) := by decide +kernel
theorem dL_law_172 : decode cL_law 172 = .ok (.aload_n 1, 1) := by decide +kernel
theorem dL_law_173 : decode cL_law 173 = .ok (.aload_n 0, 1) := by decide +kernel
theorem dL_law_174 : decode cL_law 174 = .ok (.iload 5, 2) := by decide +kernel
theorem dL_law_176 : decode cL_law 176 = .ok (.iconst 1, 1) := by decide +kernel
theorem dL_law_177 : decode cL_law 177 = .ok (.iadd, 1) := by decide +kernel
theorem dL_law_178 : decode cL_law 178 = .ok (.iaload, 1) := by decide +kernel
theorem dL_law_179 : decode cL_law 179 = .ok (.aload_n 0, 1) := by decide +kernel
theorem dL_law_180 : decode cL_law 180 = .ok (.iload 5, 2) := by decide +kernel
theorem dL_law_182 : decode cL_law 182 = .ok (.iconst 2, 1) := by decide +kernel
theorem dL_law_183 : decode cL_law 183 = .ok (.iadd, 1) := by decide +kernel
theorem dL_law_184 : decode cL_law 184 = .ok (.iaload, 1) := by decide +kernel
theorem dL_law_185 : decode cL_law 185 = .ok (.aload_n 0, 1) := by decide +kernel
theorem dL_law_186 : decode cL_law 186 = .ok (.iload 5, 2) := by decide +kernel
theorem dL_law_188 : decode cL_law 188 = .ok (.iconst 3, 1) := by decide +kernel
theorem dL_law_189 : decode cL_law 189 = .ok (.iadd, 1) := by decide +kernel
theorem dL_law_190 : decode cL_law 190 = .ok (.iaload, 1) := by decide +kernel
theorem dL_law_191 : decode cL_law 191 = .ok (.aload_n 0, 1) := by decide +kernel
theorem dL_law_192 : decode cL_law 192 = .ok (.iload 5, 2) := by decide +kernel
theorem dL_law_194 : decode cL_law 194 = .ok (.iconst 4, 1) := by decide +kernel
theorem dL_law_195 : decode cL_law 195 = .ok (.iadd, 1) := by decide +kernel
theorem dL_law_196 : decode cL_law 196 = .ok (.iaload, 1) := by decide +kernel
theorem dL_law_197 : decode cL_law 197 = .ok (.aload_n 3, 1) := by decide +kernel
theorem dL_law_198 : decode cL_law 198 = .ok (.invokestatic 109, 3) := by decide +kernel
theorem dL_law_201 : decode cL_law 201 = .ok (.istore 6, 2) := by decide +kernel
theorem dL_law_203 : decode cL_law 203 = .ok (.aload_n 2, 1) := by decide +kernel
theorem dL_law_204 : decode cL_law 204 = .ok (.aload_n 0, 1) := by decide +kernel
theorem dL_law_205 : decode cL_law 205 = .ok (.iload 5, 2) := by decide +kernel
theorem dL_law_207 : decode cL_law 207 = .ok (.iconst 1, 1) := by decide +kernel
theorem dL_law_208 : decode cL_law 208 = .ok (.iadd, 1) := by decide +kernel
theorem dL_law_209 : decode cL_law 209 = .ok (.iaload, 1) := by decide +kernel
theorem dL_law_210 : decode cL_law 210 = .ok (.aload_n 0, 1) := by decide +kernel
theorem dL_law_211 : decode cL_law 211 = .ok (.iload 5, 2) := by decide +kernel
theorem dL_law_213 : decode cL_law 213 = .ok (.iconst 2, 1) := by decide +kernel
theorem dL_law_214 : decode cL_law 214 = .ok (.iadd, 1) := by decide +kernel
theorem dL_law_215 : decode cL_law 215 = .ok (.iaload, 1) := by decide +kernel
theorem dL_law_216 : decode cL_law 216 = .ok (.aload_n 0, 1) := by decide +kernel
theorem dL_law_217 : decode cL_law 217 = .ok (.iload 5, 2) := by decide +kernel
theorem dL_law_219 : decode cL_law 219 = .ok (.iconst 3, 1) := by decide +kernel
theorem dL_law_220 : decode cL_law 220 = .ok (.iadd, 1) := by decide +kernel
theorem dL_law_221 : decode cL_law 221 = .ok (.iaload, 1) := by decide +kernel
theorem dL_law_222 : decode cL_law 222 = .ok (.aload_n 0, 1) := by decide +kernel
theorem dL_law_223 : decode cL_law 223 = .ok (.iload 5, 2) := by decide +kernel
theorem dL_law_225 : decode cL_law 225 = .ok (.iconst 4, 1) := by decide +kernel
theorem dL_law_226 : decode cL_law 226 = .ok (.iadd, 1) := by decide +kernel
theorem dL_law_227 : decode cL_law 227 = .ok (.iaload, 1) := by decide +kernel
theorem dL_law_228 : decode cL_law 228 = .ok (.invokevirtual 114, 3) := by decide +kernel
theorem dL_law_231 : decode cL_law 231 = .ok (.istore 7, 2) := by decide +kernel
theorem dL_law_233 : decode cL_law 233 = .ok (.aload_n 2, 1) := by decide +kernel
theorem dL_law_234 : decode cL_law 234 = .ok (.invokevirtual 115, 3) := by decide +kernel
theorem dL_law_237 : decode cL_law 237 = .ok (.iload 6, 2) := by decide +kernel
theorem dL_law_239 : decode cL_law 239 = .ok (.if_icmp .eq 5, 3) := by decide +kernel
theorem dL_law_242 : decode cL_law 242 = .ok (.iconst 0, 1) := by decide +kernel
theorem dL_law_243 : decode cL_law 243 = .ok (.ireturn, 1) := by decide +kernel
theorem dL_law_244 : decode cL_law 244 = .ok (.iload 6, 2) := by decide +kernel
theorem dL_law_246 : decode cL_law 246 = .ok (.ifCond .ne 15, 3) := by decide +kernel
theorem dL_law_249 : decode cL_law 249 = .ok (.aload_n 3, 1) := by decide +kernel
theorem dL_law_250 : decode cL_law 250 = .ok (.iconst 0, 1) := by decide +kernel
theorem dL_law_251 : decode cL_law 251 = .ok (.laload, 1) := by decide +kernel
theorem dL_law_252 : decode cL_law 252 = .ok (.iload 7, 2) := by decide +kernel
theorem dL_law_254 : decode cL_law 254 = .ok (.i2l, 1) := by decide +kernel
theorem dL_law_255 : decode cL_law 255 = .ok (.lcmp, 1) := by decide +kernel
theorem dL_law_256 : decode cL_law 256 = .ok (.ifCond .eq 5, 3) := by decide +kernel
theorem dL_law_259 : decode cL_law 259 = .ok (.iconst 0, 1) := by decide +kernel
theorem dL_law_260 : decode cL_law 260 = .ok (.ireturn, 1) := by decide +kernel
theorem dL_law_261 : decode cL_law 261 = .ok (.goto 1586, 3) := by decide +kernel
theorem dL_law_264 : decode cL_law 264 = .ok (.aload_n 1, 1) := by decide +kernel
theorem dL_law_265 : decode cL_law 265 = .ok (.aload_n 0, 1) := by decide +kernel
theorem dL_law_266 : decode cL_law 266 = .ok (.iload 5, 2) := by decide +kernel
theorem dL_law_268 : decode cL_law 268 = .ok (.iconst 1, 1) := by decide +kernel
theorem dL_law_269 : decode cL_law 269 = .ok (.iadd, 1) := by decide +kernel
theorem dL_law_270 : decode cL_law 270 = .ok (.iaload, 1) := by decide +kernel
theorem dL_law_271 : decode cL_law 271 = .ok (.aload_n 3, 1) := by decide +kernel
theorem dL_law_272 : decode cL_law 272 = .ok (.invokestatic 118, 3) := by decide +kernel
theorem dL_law_275 : decode cL_law 275 = .ok (.istore 6, 2) := by decide +kernel
theorem dL_law_277 : decode cL_law 277 = .ok (.aload_n 2, 1) := by decide +kernel
theorem dL_law_278 : decode cL_law 278 = .ok (.aload_n 0, 1) := by decide +kernel
theorem dL_law_279 : decode cL_law 279 = .ok (.iload 5, 2) := by decide +kernel
theorem dL_law_281 : decode cL_law 281 = .ok (.iconst 1, 1) := by decide +kernel
theorem dL_law_282 : decode cL_law 282 = .ok (.iadd, 1) := by decide +kernel
theorem dL_law_283 : decode cL_law 283 = .ok (.iaload, 1) := by decide +kernel
theorem dL_law_284 : decode cL_law 284 = .ok (.invokevirtual 121, 3) := by decide +kernel
theorem dL_law_287 : decode cL_law 287 = .ok (.istore 7, 2) := by decide +kernel
theorem dL_law_289 : decode cL_law 289 = .ok (.aload_n 2, 1) := by decide +kernel
theorem dL_law_290 : decode cL_law 290 = .ok (.invokevirtual 115, 3) := by decide +kernel
theorem dL_law_293 : decode cL_law 293 = .ok (.iload 6, 2) := by decide +kernel
theorem dL_law_295 : decode cL_law 295 = .ok (.if_icmp .eq 5, 3) := by decide +kernel
theorem dL_law_298 : decode cL_law 298 = .ok (.iconst 0, 1) := by decide +kernel
theorem dL_law_299 : decode cL_law 299 = .ok (.ireturn, 1) := by decide +kernel
theorem dL_law_300 : decode cL_law 300 = .ok (.iload 6, 2) := by decide +kernel
theorem dL_law_302 : decode cL_law 302 = .ok (.ifCond .ne 15, 3) := by decide +kernel
theorem dL_law_305 : decode cL_law 305 = .ok (.aload_n 3, 1) := by decide +kernel
theorem dL_law_306 : decode cL_law 306 = .ok (.iconst 0, 1) := by decide +kernel
theorem dL_law_307 : decode cL_law 307 = .ok (.laload, 1) := by decide +kernel
theorem dL_law_308 : decode cL_law 308 = .ok (.iload 7, 2) := by decide +kernel
theorem dL_law_310 : decode cL_law 310 = .ok (.i2l, 1) := by decide +kernel
theorem dL_law_311 : decode cL_law 311 = .ok (.lcmp, 1) := by decide +kernel
theorem dL_law_312 : decode cL_law 312 = .ok (.ifCond .eq 5, 3) := by decide +kernel
theorem dL_law_315 : decode cL_law 315 = .ok (.iconst 0, 1) := by decide +kernel
theorem dL_law_316 : decode cL_law 316 = .ok (.ireturn, 1) := by decide +kernel
theorem dL_law_317 : decode cL_law 317 = .ok (.goto 1530, 3) := by decide +kernel
theorem dL_law_320 : decode cL_law 320 = .ok (.aload_n 1, 1) := by decide +kernel
theorem dL_law_321 : decode cL_law 321 = .ok (.aload_n 0, 1) := by decide +kernel
theorem dL_law_322 : decode cL_law 322 = .ok (.iload 5, 2) := by decide +kernel
theorem dL_law_324 : decode cL_law 324 = .ok (.iconst 1, 1) := by decide +kernel
theorem dL_law_325 : decode cL_law 325 = .ok (.iadd, 1) := by decide +kernel
theorem dL_law_326 : decode cL_law 326 = .ok (.iaload, 1) := by decide +kernel
theorem dL_law_327 : decode cL_law 327 = .ok (.aload_n 0, 1) := by decide +kernel
theorem dL_law_328 : decode cL_law 328 = .ok (.iload 5, 2) := by decide +kernel
theorem dL_law_330 : decode cL_law 330 = .ok (.iconst 2, 1) := by decide +kernel
theorem dL_law_331 : decode cL_law 331 = .ok (.iadd, 1) := by decide +kernel
theorem dL_law_332 : decode cL_law 332 = .ok (.iaload, 1) := by decide +kernel
theorem dL_law_333 : decode cL_law 333 = .ok (.aload_n 3, 1) := by decide +kernel
theorem dL_law_334 : decode cL_law 334 = .ok (.invokestatic 122, 3) := by decide +kernel
theorem dL_law_337 : decode cL_law 337 = .ok (.istore 6, 2) := by decide +kernel
theorem dL_law_339 : decode cL_law 339 = .ok (.aload_n 2, 1) := by decide +kernel
theorem dL_law_340 : decode cL_law 340 = .ok (.aload_n 0, 1) := by decide +kernel
theorem dL_law_341 : decode cL_law 341 = .ok (.iload 5, 2) := by decide +kernel
theorem dL_law_343 : decode cL_law 343 = .ok (.iconst 1, 1) := by decide +kernel
theorem dL_law_344 : decode cL_law 344 = .ok (.iadd, 1) := by decide +kernel
theorem dL_law_345 : decode cL_law 345 = .ok (.iaload, 1) := by decide +kernel
theorem dL_law_346 : decode cL_law 346 = .ok (.aload_n 0, 1) := by decide +kernel
theorem dL_law_347 : decode cL_law 347 = .ok (.iload 5, 2) := by decide +kernel
theorem dL_law_349 : decode cL_law 349 = .ok (.iconst 2, 1) := by decide +kernel
theorem dL_law_350 : decode cL_law 350 = .ok (.iadd, 1) := by decide +kernel
theorem dL_law_351 : decode cL_law 351 = .ok (.iaload, 1) := by decide +kernel
theorem dL_law_352 : decode cL_law 352 = .ok (.invokevirtual 125, 3) := by decide +kernel
theorem dL_law_355 : decode cL_law 355 = .ok (.istore 7, 2) := by decide +kernel
theorem dL_law_357 : decode cL_law 357 = .ok (.aload_n 2, 1) := by decide +kernel
theorem dL_law_358 : decode cL_law 358 = .ok (.invokevirtual 115, 3) := by decide +kernel
theorem dL_law_361 : decode cL_law 361 = .ok (.iload 6, 2) := by decide +kernel
theorem dL_law_363 : decode cL_law 363 = .ok (.if_icmp .eq 5, 3) := by decide +kernel
theorem dL_law_366 : decode cL_law 366 = .ok (.iconst 0, 1) := by decide +kernel
theorem dL_law_367 : decode cL_law 367 = .ok (.ireturn, 1) := by decide +kernel
theorem dL_law_368 : decode cL_law 368 = .ok (.iload 6, 2) := by decide +kernel
theorem dL_law_370 : decode cL_law 370 = .ok (.ifCond .ne 15, 3) := by decide +kernel
theorem dL_law_373 : decode cL_law 373 = .ok (.aload_n 3, 1) := by decide +kernel
theorem dL_law_374 : decode cL_law 374 = .ok (.iconst 0, 1) := by decide +kernel
theorem dL_law_375 : decode cL_law 375 = .ok (.laload, 1) := by decide +kernel
theorem dL_law_376 : decode cL_law 376 = .ok (.iload 7, 2) := by decide +kernel
theorem dL_law_378 : decode cL_law 378 = .ok (.i2l, 1) := by decide +kernel
theorem dL_law_379 : decode cL_law 379 = .ok (.lcmp, 1) := by decide +kernel
theorem dL_law_380 : decode cL_law 380 = .ok (.ifCond .eq 5, 3) := by decide +kernel
theorem dL_law_383 : decode cL_law 383 = .ok (.iconst 0, 1) := by decide +kernel
theorem dL_law_384 : decode cL_law 384 = .ok (.ireturn, 1) := by decide +kernel
theorem dL_law_385 : decode cL_law 385 = .ok (.goto 1462, 3) := by decide +kernel
theorem dL_law_388 : decode cL_law 388 = .ok (.aload_n 1, 1) := by decide +kernel
theorem dL_law_389 : decode cL_law 389 = .ok (.aload_n 0, 1) := by decide +kernel
theorem dL_law_390 : decode cL_law 390 = .ok (.iload 5, 2) := by decide +kernel
theorem dL_law_392 : decode cL_law 392 = .ok (.iconst 1, 1) := by decide +kernel
theorem dL_law_393 : decode cL_law 393 = .ok (.iadd, 1) := by decide +kernel
theorem dL_law_394 : decode cL_law 394 = .ok (.iaload, 1) := by decide +kernel
theorem dL_law_395 : decode cL_law 395 = .ok (.aload_n 0, 1) := by decide +kernel
theorem dL_law_396 : decode cL_law 396 = .ok (.iload 5, 2) := by decide +kernel
theorem dL_law_398 : decode cL_law 398 = .ok (.iconst 2, 1) := by decide +kernel
theorem dL_law_399 : decode cL_law 399 = .ok (.iadd, 1) := by decide +kernel
theorem dL_law_400 : decode cL_law 400 = .ok (.iaload, 1) := by decide +kernel
theorem dL_law_401 : decode cL_law 401 = .ok (.aload_n 0, 1) := by decide +kernel
theorem dL_law_402 : decode cL_law 402 = .ok (.iload 5, 2) := by decide +kernel
theorem dL_law_404 : decode cL_law 404 = .ok (.iconst 3, 1) := by decide +kernel
theorem dL_law_405 : decode cL_law 405 = .ok (.iadd, 1) := by decide +kernel
theorem dL_law_406 : decode cL_law 406 = .ok (.iaload, 1) := by decide +kernel
theorem dL_law_407 : decode cL_law 407 = .ok (.aload_n 3, 1) := by decide +kernel
theorem dL_law_408 : decode cL_law 408 = .ok (.invokestatic 126, 3) := by decide +kernel
theorem dL_law_411 : decode cL_law 411 = .ok (.istore 6, 2) := by decide +kernel
theorem dL_law_413 : decode cL_law 413 = .ok (.aload_n 2, 1) := by decide +kernel
theorem dL_law_414 : decode cL_law 414 = .ok (.aload_n 0, 1) := by decide +kernel
theorem dL_law_415 : decode cL_law 415 = .ok (.iload 5, 2) := by decide +kernel
theorem dL_law_417 : decode cL_law 417 = .ok (.iconst 1, 1) := by decide +kernel
theorem dL_law_418 : decode cL_law 418 = .ok (.iadd, 1) := by decide +kernel
theorem dL_law_419 : decode cL_law 419 = .ok (.iaload, 1) := by decide +kernel
theorem dL_law_420 : decode cL_law 420 = .ok (.aload_n 0, 1) := by decide +kernel
theorem dL_law_421 : decode cL_law 421 = .ok (.iload 5, 2) := by decide +kernel
theorem dL_law_423 : decode cL_law 423 = .ok (.iconst 2, 1) := by decide +kernel
theorem dL_law_424 : decode cL_law 424 = .ok (.iadd, 1) := by decide +kernel
theorem dL_law_425 : decode cL_law 425 = .ok (.iaload, 1) := by decide +kernel
theorem dL_law_426 : decode cL_law 426 = .ok (.aload_n 0, 1) := by decide +kernel
theorem dL_law_427 : decode cL_law 427 = .ok (.iload 5, 2) := by decide +kernel
theorem dL_law_429 : decode cL_law 429 = .ok (.iconst 3, 1) := by decide +kernel
theorem dL_law_430 : decode cL_law 430 = .ok (.iadd, 1) := by decide +kernel
theorem dL_law_431 : decode cL_law 431 = .ok (.iaload, 1) := by decide +kernel
theorem dL_law_432 : decode cL_law 432 = .ok (.invokevirtual 129, 3) := by decide +kernel
theorem dL_law_435 : decode cL_law 435 = .ok (.istore 7, 2) := by decide +kernel
theorem dL_law_437 : decode cL_law 437 = .ok (.aload_n 2, 1) := by decide +kernel
theorem dL_law_438 : decode cL_law 438 = .ok (.invokevirtual 115, 3) := by decide +kernel
theorem dL_law_441 : decode cL_law 441 = .ok (.iload 6, 2) := by decide +kernel
theorem dL_law_443 : decode cL_law 443 = .ok (.if_icmp .eq 5, 3) := by decide +kernel
theorem dL_law_446 : decode cL_law 446 = .ok (.iconst 0, 1) := by decide +kernel
theorem dL_law_447 : decode cL_law 447 = .ok (.ireturn, 1) := by decide +kernel
theorem dL_law_448 : decode cL_law 448 = .ok (.iload 6, 2) := by decide +kernel
theorem dL_law_450 : decode cL_law 450 = .ok (.ifCond .ne 15, 3) := by decide +kernel
theorem dL_law_453 : decode cL_law 453 = .ok (.aload_n 3, 1) := by decide +kernel
theorem dL_law_454 : decode cL_law 454 = .ok (.iconst 0, 1) := by decide +kernel
theorem dL_law_455 : decode cL_law 455 = .ok (.laload, 1) := by decide +kernel
theorem dL_law_456 : decode cL_law 456 = .ok (.iload 7, 2) := by decide +kernel
theorem dL_law_458 : decode cL_law 458 = .ok (.i2l, 1) := by decide +kernel
theorem dL_law_459 : decode cL_law 459 = .ok (.lcmp, 1) := by decide +kernel
theorem dL_law_460 : decode cL_law 460 = .ok (.ifCond .eq 5, 3) := by decide +kernel
theorem dL_law_463 : decode cL_law 463 = .ok (.iconst 0, 1) := by decide +kernel
theorem dL_law_464 : decode cL_law 464 = .ok (.ireturn, 1) := by decide +kernel
theorem dL_law_465 : decode cL_law 465 = .ok (.goto 1382, 3) := by decide +kernel
theorem dL_law_468 : decode cL_law 468 = .ok (.aload_n 1, 1) := by decide +kernel
theorem dL_law_469 : decode cL_law 469 = .ok (.invokevirtual 130, 3) := by decide +kernel
theorem dL_law_472 : decode cL_law 472 = .ok (.aload_n 2, 1) := by decide +kernel
theorem dL_law_473 : decode cL_law 473 = .ok (.invokevirtual 133, 3) := by decide +kernel
theorem dL_law_476 : decode cL_law 476 = .ok (.if_icmp .eq 1371, 3) := by decide +kernel
theorem dL_law_479 : decode cL_law 479 = .ok (.iconst 0, 1) := by decide +kernel
theorem dL_law_480 : decode cL_law 480 = .ok (.ireturn, 1) := by decide +kernel
theorem dL_law_481 : decode cL_law 481 = .ok (.aload_n 1, 1) := by decide +kernel
theorem dL_law_482 : decode cL_law 482 = .ok (.aload_n 0, 1) := by decide +kernel
theorem dL_law_483 : decode cL_law 483 = .ok (.iload 5, 2) := by decide +kernel
theorem dL_law_485 : decode cL_law 485 = .ok (.iconst 1, 1) := by decide +kernel
theorem dL_law_486 : decode cL_law 486 = .ok (.iadd, 1) := by decide +kernel
theorem dL_law_487 : decode cL_law 487 = .ok (.iaload, 1) := by decide +kernel
theorem dL_law_488 : decode cL_law 488 = .ok (.aload_n 3, 1) := by decide +kernel
theorem dL_law_489 : decode cL_law 489 = .ok (.invokestatic 134, 3) := by decide +kernel
theorem dL_law_492 : decode cL_law 492 = .ok (.istore 6, 2) := by decide +kernel
theorem dL_law_494 : decode cL_law 494 = .ok (.aload_n 2, 1) := by decide +kernel
theorem dL_law_495 : decode cL_law 495 = .ok (.aload_n 0, 1) := by decide +kernel
theorem dL_law_496 : decode cL_law 496 = .ok (.iload 5, 2) := by decide +kernel
theorem dL_law_498 : decode cL_law 498 = .ok (.iconst 1, 1) := by decide +kernel
theorem dL_law_499 : decode cL_law 499 = .ok (.iadd, 1) := by decide +kernel
theorem dL_law_500 : decode cL_law 500 = .ok (.iaload, 1) := by decide +kernel
theorem dL_law_501 : decode cL_law 501 = .ok (.invokevirtual 136, 3) := by decide +kernel
theorem dL_law_504 : decode cL_law 504 = .ok (.istore 7, 2) := by decide +kernel
theorem dL_law_506 : decode cL_law 506 = .ok (.aload_n 2, 1) := by decide +kernel
theorem dL_law_507 : decode cL_law 507 = .ok (.invokevirtual 115, 3) := by decide +kernel
theorem dL_law_510 : decode cL_law 510 = .ok (.iload 6, 2) := by decide +kernel
theorem dL_law_512 : decode cL_law 512 = .ok (.if_icmp .eq 5, 3) := by decide +kernel
theorem dL_law_515 : decode cL_law 515 = .ok (.iconst 0, 1) := by decide +kernel
theorem dL_law_516 : decode cL_law 516 = .ok (.ireturn, 1) := by decide +kernel
theorem dL_law_517 : decode cL_law 517 = .ok (.iload 6, 2) := by decide +kernel
theorem dL_law_519 : decode cL_law 519 = .ok (.ifCond .ne 15, 3) := by decide +kernel
theorem dL_law_522 : decode cL_law 522 = .ok (.aload_n 3, 1) := by decide +kernel
theorem dL_law_523 : decode cL_law 523 = .ok (.iconst 0, 1) := by decide +kernel
theorem dL_law_524 : decode cL_law 524 = .ok (.laload, 1) := by decide +kernel
theorem dL_law_525 : decode cL_law 525 = .ok (.iload 7, 2) := by decide +kernel
theorem dL_law_527 : decode cL_law 527 = .ok (.i2l, 1) := by decide +kernel
theorem dL_law_528 : decode cL_law 528 = .ok (.lcmp, 1) := by decide +kernel
theorem dL_law_529 : decode cL_law 529 = .ok (.ifCond .eq 5, 3) := by decide +kernel
theorem dL_law_532 : decode cL_law 532 = .ok (.iconst 0, 1) := by decide +kernel
theorem dL_law_533 : decode cL_law 533 = .ok (.ireturn, 1) := by decide +kernel
theorem dL_law_534 : decode cL_law 534 = .ok (.goto 1313, 3) := by decide +kernel
theorem dL_law_537 : decode cL_law 537 = .ok (.aload_n 1, 1) := by decide +kernel
theorem dL_law_538 : decode cL_law 538 = .ok (.aload_n 0, 1) := by decide +kernel
theorem dL_law_539 : decode cL_law 539 = .ok (.iload 5, 2) := by decide +kernel
theorem dL_law_541 : decode cL_law 541 = .ok (.iconst 1, 1) := by decide +kernel
theorem dL_law_542 : decode cL_law 542 = .ok (.iadd, 1) := by decide +kernel
theorem dL_law_543 : decode cL_law 543 = .ok (.iaload, 1) := by decide +kernel
theorem dL_law_544 : decode cL_law 544 = .ok (.aload_n 0, 1) := by decide +kernel
theorem dL_law_545 : decode cL_law 545 = .ok (.iload 5, 2) := by decide +kernel
theorem dL_law_547 : decode cL_law 547 = .ok (.iconst 2, 1) := by decide +kernel
theorem dL_law_548 : decode cL_law 548 = .ok (.iadd, 1) := by decide +kernel
theorem dL_law_549 : decode cL_law 549 = .ok (.iaload, 1) := by decide +kernel
theorem dL_law_550 : decode cL_law 550 = .ok (.aload_n 3, 1) := by decide +kernel
theorem dL_law_551 : decode cL_law 551 = .ok (.invokestatic 137, 3) := by decide +kernel
theorem dL_law_554 : decode cL_law 554 = .ok (.istore 6, 2) := by decide +kernel
theorem dL_law_556 : decode cL_law 556 = .ok (.aload_n 2, 1) := by decide +kernel
theorem dL_law_557 : decode cL_law 557 = .ok (.aload_n 0, 1) := by decide +kernel
theorem dL_law_558 : decode cL_law 558 = .ok (.iload 5, 2) := by decide +kernel
theorem dL_law_560 : decode cL_law 560 = .ok (.iconst 1, 1) := by decide +kernel
theorem dL_law_561 : decode cL_law 561 = .ok (.iadd, 1) := by decide +kernel
theorem dL_law_562 : decode cL_law 562 = .ok (.iaload, 1) := by decide +kernel
theorem dL_law_563 : decode cL_law 563 = .ok (.aload_n 0, 1) := by decide +kernel
theorem dL_law_564 : decode cL_law 564 = .ok (.iload 5, 2) := by decide +kernel
theorem dL_law_566 : decode cL_law 566 = .ok (.iconst 2, 1) := by decide +kernel
theorem dL_law_567 : decode cL_law 567 = .ok (.iadd, 1) := by decide +kernel
theorem dL_law_568 : decode cL_law 568 = .ok (.iaload, 1) := by decide +kernel
theorem dL_law_569 : decode cL_law 569 = .ok (.invokevirtual 139, 3) := by decide +kernel
theorem dL_law_572 : decode cL_law 572 = .ok (.istore 7, 2) := by decide +kernel
theorem dL_law_574 : decode cL_law 574 = .ok (.aload_n 2, 1) := by decide +kernel
theorem dL_law_575 : decode cL_law 575 = .ok (.invokevirtual 115, 3) := by decide +kernel
theorem dL_law_578 : decode cL_law 578 = .ok (.iload 6, 2) := by decide +kernel
theorem dL_law_580 : decode cL_law 580 = .ok (.if_icmp .eq 5, 3) := by decide +kernel
theorem dL_law_583 : decode cL_law 583 = .ok (.iconst 0, 1) := by decide +kernel
theorem dL_law_584 : decode cL_law 584 = .ok (.ireturn, 1) := by decide +kernel
theorem dL_law_585 : decode cL_law 585 = .ok (.iload 6, 2) := by decide +kernel
theorem dL_law_587 : decode cL_law 587 = .ok (.ifCond .ne 15, 3) := by decide +kernel
theorem dL_law_590 : decode cL_law 590 = .ok (.aload_n 3, 1) := by decide +kernel
theorem dL_law_591 : decode cL_law 591 = .ok (.iconst 0, 1) := by decide +kernel
theorem dL_law_592 : decode cL_law 592 = .ok (.laload, 1) := by decide +kernel
theorem dL_law_593 : decode cL_law 593 = .ok (.iload 7, 2) := by decide +kernel
theorem dL_law_595 : decode cL_law 595 = .ok (.i2l, 1) := by decide +kernel
theorem dL_law_596 : decode cL_law 596 = .ok (.lcmp, 1) := by decide +kernel
theorem dL_law_597 : decode cL_law 597 = .ok (.ifCond .eq 5, 3) := by decide +kernel
theorem dL_law_600 : decode cL_law 600 = .ok (.iconst 0, 1) := by decide +kernel
theorem dL_law_601 : decode cL_law 601 = .ok (.ireturn, 1) := by decide +kernel
theorem dL_law_602 : decode cL_law 602 = .ok (.goto 1245, 3) := by decide +kernel
theorem dL_law_605 : decode cL_law 605 = .ok (.aload_n 1, 1) := by decide +kernel
theorem dL_law_606 : decode cL_law 606 = .ok (.aload_n 0, 1) := by decide +kernel
theorem dL_law_607 : decode cL_law 607 = .ok (.iload 5, 2) := by decide +kernel
theorem dL_law_609 : decode cL_law 609 = .ok (.iconst 1, 1) := by decide +kernel
theorem dL_law_610 : decode cL_law 610 = .ok (.iadd, 1) := by decide +kernel
theorem dL_law_611 : decode cL_law 611 = .ok (.iaload, 1) := by decide +kernel
theorem dL_law_612 : decode cL_law 612 = .ok (.aload_n 0, 1) := by decide +kernel
theorem dL_law_613 : decode cL_law 613 = .ok (.iload 5, 2) := by decide +kernel
theorem dL_law_615 : decode cL_law 615 = .ok (.iconst 2, 1) := by decide +kernel
theorem dL_law_616 : decode cL_law 616 = .ok (.iadd, 1) := by decide +kernel
theorem dL_law_617 : decode cL_law 617 = .ok (.iaload, 1) := by decide +kernel
theorem dL_law_618 : decode cL_law 618 = .ok (.aload_n 0, 1) := by decide +kernel
theorem dL_law_619 : decode cL_law 619 = .ok (.iload 5, 2) := by decide +kernel
theorem dL_law_621 : decode cL_law 621 = .ok (.iconst 3, 1) := by decide +kernel
theorem dL_law_622 : decode cL_law 622 = .ok (.iadd, 1) := by decide +kernel
theorem dL_law_623 : decode cL_law 623 = .ok (.iaload, 1) := by decide +kernel
theorem dL_law_624 : decode cL_law 624 = .ok (.aload_n 3, 1) := by decide +kernel
theorem dL_law_625 : decode cL_law 625 = .ok (.invokestatic 140, 3) := by decide +kernel
theorem dL_law_628 : decode cL_law 628 = .ok (.istore 6, 2) := by decide +kernel
theorem dL_law_630 : decode cL_law 630 = .ok (.aload_n 2, 1) := by decide +kernel
theorem dL_law_631 : decode cL_law 631 = .ok (.aload_n 0, 1) := by decide +kernel
theorem dL_law_632 : decode cL_law 632 = .ok (.iload 5, 2) := by decide +kernel
theorem dL_law_634 : decode cL_law 634 = .ok (.iconst 1, 1) := by decide +kernel
theorem dL_law_635 : decode cL_law 635 = .ok (.iadd, 1) := by decide +kernel
theorem dL_law_636 : decode cL_law 636 = .ok (.iaload, 1) := by decide +kernel
theorem dL_law_637 : decode cL_law 637 = .ok (.aload_n 0, 1) := by decide +kernel
theorem dL_law_638 : decode cL_law 638 = .ok (.iload 5, 2) := by decide +kernel
theorem dL_law_640 : decode cL_law 640 = .ok (.iconst 2, 1) := by decide +kernel
theorem dL_law_641 : decode cL_law 641 = .ok (.iadd, 1) := by decide +kernel
theorem dL_law_642 : decode cL_law 642 = .ok (.iaload, 1) := by decide +kernel
theorem dL_law_643 : decode cL_law 643 = .ok (.aload_n 0, 1) := by decide +kernel
theorem dL_law_644 : decode cL_law 644 = .ok (.iload 5, 2) := by decide +kernel
theorem dL_law_646 : decode cL_law 646 = .ok (.iconst 3, 1) := by decide +kernel
theorem dL_law_647 : decode cL_law 647 = .ok (.iadd, 1) := by decide +kernel
theorem dL_law_648 : decode cL_law 648 = .ok (.iaload, 1) := by decide +kernel
theorem dL_law_649 : decode cL_law 649 = .ok (.invokevirtual 142, 3) := by decide +kernel
theorem dL_law_652 : decode cL_law 652 = .ok (.istore 7, 2) := by decide +kernel
theorem dL_law_654 : decode cL_law 654 = .ok (.aload_n 2, 1) := by decide +kernel
theorem dL_law_655 : decode cL_law 655 = .ok (.invokevirtual 115, 3) := by decide +kernel
theorem dL_law_658 : decode cL_law 658 = .ok (.iload 6, 2) := by decide +kernel
theorem dL_law_660 : decode cL_law 660 = .ok (.if_icmp .eq 5, 3) := by decide +kernel
theorem dL_law_663 : decode cL_law 663 = .ok (.iconst 0, 1) := by decide +kernel
theorem dL_law_664 : decode cL_law 664 = .ok (.ireturn, 1) := by decide +kernel
theorem dL_law_665 : decode cL_law 665 = .ok (.iload 6, 2) := by decide +kernel
theorem dL_law_667 : decode cL_law 667 = .ok (.ifCond .ne 15, 3) := by decide +kernel
theorem dL_law_670 : decode cL_law 670 = .ok (.aload_n 3, 1) := by decide +kernel
theorem dL_law_671 : decode cL_law 671 = .ok (.iconst 0, 1) := by decide +kernel
theorem dL_law_672 : decode cL_law 672 = .ok (.laload, 1) := by decide +kernel
theorem dL_law_673 : decode cL_law 673 = .ok (.iload 7, 2) := by decide +kernel
theorem dL_law_675 : decode cL_law 675 = .ok (.i2l, 1) := by decide +kernel
theorem dL_law_676 : decode cL_law 676 = .ok (.lcmp, 1) := by decide +kernel
theorem dL_law_677 : decode cL_law 677 = .ok (.ifCond .eq 5, 3) := by decide +kernel
theorem dL_law_680 : decode cL_law 680 = .ok (.iconst 0, 1) := by decide +kernel
theorem dL_law_681 : decode cL_law 681 = .ok (.ireturn, 1) := by decide +kernel
theorem dL_law_682 : decode cL_law 682 = .ok (.goto 1165, 3) := by decide +kernel
theorem dL_law_685 : decode cL_law 685 = .ok (.aload_n 1, 1) := by decide +kernel
theorem dL_law_686 : decode cL_law 686 = .ok (.aload_n 0, 1) := by decide +kernel
theorem dL_law_687 : decode cL_law 687 = .ok (.iload 5, 2) := by decide +kernel
theorem dL_law_689 : decode cL_law 689 = .ok (.iconst 1, 1) := by decide +kernel
theorem dL_law_690 : decode cL_law 690 = .ok (.iadd, 1) := by decide +kernel
theorem dL_law_691 : decode cL_law 691 = .ok (.iaload, 1) := by decide +kernel
theorem dL_law_692 : decode cL_law 692 = .ok (.aload_n 3, 1) := by decide +kernel
theorem dL_law_693 : decode cL_law 693 = .ok (.invokestatic 143, 3) := by decide +kernel
theorem dL_law_696 : decode cL_law 696 = .ok (.istore 6, 2) := by decide +kernel
theorem dL_law_698 : decode cL_law 698 = .ok (.aload_n 2, 1) := by decide +kernel
theorem dL_law_699 : decode cL_law 699 = .ok (.aload_n 0, 1) := by decide +kernel
theorem dL_law_700 : decode cL_law 700 = .ok (.iload 5, 2) := by decide +kernel
theorem dL_law_702 : decode cL_law 702 = .ok (.iconst 1, 1) := by decide +kernel
theorem dL_law_703 : decode cL_law 703 = .ok (.iadd, 1) := by decide +kernel
theorem dL_law_704 : decode cL_law 704 = .ok (.iaload, 1) := by decide +kernel
theorem dL_law_705 : decode cL_law 705 = .ok (.invokevirtual 145, 3) := by decide +kernel
theorem dL_law_708 : decode cL_law 708 = .ok (.istore 7, 2) := by decide +kernel
theorem dL_law_710 : decode cL_law 710 = .ok (.aload_n 2, 1) := by decide +kernel
theorem dL_law_711 : decode cL_law 711 = .ok (.invokevirtual 115, 3) := by decide +kernel
theorem dL_law_714 : decode cL_law 714 = .ok (.iload 6, 2) := by decide +kernel
theorem dL_law_716 : decode cL_law 716 = .ok (.if_icmp .eq 5, 3) := by decide +kernel
theorem dL_law_719 : decode cL_law 719 = .ok (.iconst 0, 1) := by decide +kernel
theorem dL_law_720 : decode cL_law 720 = .ok (.ireturn, 1) := by decide +kernel
theorem dL_law_721 : decode cL_law 721 = .ok (.iload 6, 2) := by decide +kernel
theorem dL_law_723 : decode cL_law 723 = .ok (.ifCond .ne 15, 3) := by decide +kernel
theorem dL_law_726 : decode cL_law 726 = .ok (.aload_n 3, 1) := by decide +kernel
theorem dL_law_727 : decode cL_law 727 = .ok (.iconst 0, 1) := by decide +kernel
theorem dL_law_728 : decode cL_law 728 = .ok (.laload, 1) := by decide +kernel
theorem dL_law_729 : decode cL_law 729 = .ok (.iload 7, 2) := by decide +kernel
theorem dL_law_731 : decode cL_law 731 = .ok (.i2l, 1) := by decide +kernel
theorem dL_law_732 : decode cL_law 732 = .ok (.lcmp, 1) := by decide +kernel
theorem dL_law_733 : decode cL_law 733 = .ok (.ifCond .eq 5, 3) := by decide +kernel
theorem dL_law_736 : decode cL_law 736 = .ok (.iconst 0, 1) := by decide +kernel
theorem dL_law_737 : decode cL_law 737 = .ok (.ireturn, 1) := by decide +kernel
theorem dL_law_738 : decode cL_law 738 = .ok (.goto 1109, 3) := by decide +kernel
theorem dL_law_741 : decode cL_law 741 = .ok (.aload_n 1, 1) := by decide +kernel
theorem dL_law_742 : decode cL_law 742 = .ok (.aload_n 0, 1) := by decide +kernel
theorem dL_law_743 : decode cL_law 743 = .ok (.iload 5, 2) := by decide +kernel
theorem dL_law_745 : decode cL_law 745 = .ok (.iconst 1, 1) := by decide +kernel
theorem dL_law_746 : decode cL_law 746 = .ok (.iadd, 1) := by decide +kernel
theorem dL_law_747 : decode cL_law 747 = .ok (.iaload, 1) := by decide +kernel
theorem dL_law_748 : decode cL_law 748 = .ok (.aload_n 0, 1) := by decide +kernel
theorem dL_law_749 : decode cL_law 749 = .ok (.iload 5, 2) := by decide +kernel
theorem dL_law_751 : decode cL_law 751 = .ok (.iconst 2, 1) := by decide +kernel
theorem dL_law_752 : decode cL_law 752 = .ok (.iadd, 1) := by decide +kernel
theorem dL_law_753 : decode cL_law 753 = .ok (.iaload, 1) := by decide +kernel
theorem dL_law_754 : decode cL_law 754 = .ok (.aload_n 3, 1) := by decide +kernel
theorem dL_law_755 : decode cL_law 755 = .ok (.invokestatic 146, 3) := by decide +kernel
theorem dL_law_758 : decode cL_law 758 = .ok (.istore 6, 2) := by decide +kernel
theorem dL_law_760 : decode cL_law 760 = .ok (.aload_n 2, 1) := by decide +kernel
theorem dL_law_761 : decode cL_law 761 = .ok (.aload_n 0, 1) := by decide +kernel
theorem dL_law_762 : decode cL_law 762 = .ok (.iload 5, 2) := by decide +kernel
theorem dL_law_764 : decode cL_law 764 = .ok (.iconst 1, 1) := by decide +kernel
theorem dL_law_765 : decode cL_law 765 = .ok (.iadd, 1) := by decide +kernel
theorem dL_law_766 : decode cL_law 766 = .ok (.iaload, 1) := by decide +kernel
theorem dL_law_767 : decode cL_law 767 = .ok (.aload_n 0, 1) := by decide +kernel
theorem dL_law_768 : decode cL_law 768 = .ok (.iload 5, 2) := by decide +kernel
theorem dL_law_770 : decode cL_law 770 = .ok (.iconst 2, 1) := by decide +kernel
theorem dL_law_771 : decode cL_law 771 = .ok (.iadd, 1) := by decide +kernel
theorem dL_law_772 : decode cL_law 772 = .ok (.iaload, 1) := by decide +kernel
theorem dL_law_773 : decode cL_law 773 = .ok (.invokevirtual 148, 3) := by decide +kernel
theorem dL_law_776 : decode cL_law 776 = .ok (.istore 7, 2) := by decide +kernel
theorem dL_law_778 : decode cL_law 778 = .ok (.aload_n 2, 1) := by decide +kernel
theorem dL_law_779 : decode cL_law 779 = .ok (.invokevirtual 115, 3) := by decide +kernel
theorem dL_law_782 : decode cL_law 782 = .ok (.iload 6, 2) := by decide +kernel
theorem dL_law_784 : decode cL_law 784 = .ok (.if_icmp .eq 5, 3) := by decide +kernel
theorem dL_law_787 : decode cL_law 787 = .ok (.iconst 0, 1) := by decide +kernel
theorem dL_law_788 : decode cL_law 788 = .ok (.ireturn, 1) := by decide +kernel
theorem dL_law_789 : decode cL_law 789 = .ok (.iload 6, 2) := by decide +kernel
theorem dL_law_791 : decode cL_law 791 = .ok (.ifCond .ne 15, 3) := by decide +kernel
theorem dL_law_794 : decode cL_law 794 = .ok (.aload_n 3, 1) := by decide +kernel
theorem dL_law_795 : decode cL_law 795 = .ok (.iconst 0, 1) := by decide +kernel
theorem dL_law_796 : decode cL_law 796 = .ok (.laload, 1) := by decide +kernel
theorem dL_law_797 : decode cL_law 797 = .ok (.iload 7, 2) := by decide +kernel
theorem dL_law_799 : decode cL_law 799 = .ok (.i2l, 1) := by decide +kernel
theorem dL_law_800 : decode cL_law 800 = .ok (.lcmp, 1) := by decide +kernel
theorem dL_law_801 : decode cL_law 801 = .ok (.ifCond .eq 5, 3) := by decide +kernel
theorem dL_law_804 : decode cL_law 804 = .ok (.iconst 0, 1) := by decide +kernel
theorem dL_law_805 : decode cL_law 805 = .ok (.ireturn, 1) := by decide +kernel
theorem dL_law_806 : decode cL_law 806 = .ok (.goto 1041, 3) := by decide +kernel
theorem dL_law_809 : decode cL_law 809 = .ok (.aload_n 1, 1) := by decide +kernel
theorem dL_law_810 : decode cL_law 810 = .ok (.aload_n 0, 1) := by decide +kernel
theorem dL_law_811 : decode cL_law 811 = .ok (.iload 5, 2) := by decide +kernel
theorem dL_law_813 : decode cL_law 813 = .ok (.iconst 1, 1) := by decide +kernel
theorem dL_law_814 : decode cL_law 814 = .ok (.iadd, 1) := by decide +kernel
theorem dL_law_815 : decode cL_law 815 = .ok (.iaload, 1) := by decide +kernel
theorem dL_law_816 : decode cL_law 816 = .ok (.aload_n 3, 1) := by decide +kernel
theorem dL_law_817 : decode cL_law 817 = .ok (.invokestatic 149, 3) := by decide +kernel
theorem dL_law_820 : decode cL_law 820 = .ok (.istore 6, 2) := by decide +kernel
theorem dL_law_822 : decode cL_law 822 = .ok (.aload_n 2, 1) := by decide +kernel
theorem dL_law_823 : decode cL_law 823 = .ok (.aload_n 0, 1) := by decide +kernel
theorem dL_law_824 : decode cL_law 824 = .ok (.iload 5, 2) := by decide +kernel
theorem dL_law_826 : decode cL_law 826 = .ok (.iconst 1, 1) := by decide +kernel
theorem dL_law_827 : decode cL_law 827 = .ok (.iadd, 1) := by decide +kernel
theorem dL_law_828 : decode cL_law 828 = .ok (.iaload, 1) := by decide +kernel
theorem dL_law_829 : decode cL_law 829 = .ok (.invokevirtual 151, 3) := by decide +kernel
theorem dL_law_832 : decode cL_law 832 = .ok (.istore 7, 2) := by decide +kernel
theorem dL_law_834 : decode cL_law 834 = .ok (.aload_n 2, 1) := by decide +kernel
theorem dL_law_835 : decode cL_law 835 = .ok (.invokevirtual 115, 3) := by decide +kernel
theorem dL_law_838 : decode cL_law 838 = .ok (.iload 6, 2) := by decide +kernel
theorem dL_law_840 : decode cL_law 840 = .ok (.if_icmp .eq 5, 3) := by decide +kernel
theorem dL_law_843 : decode cL_law 843 = .ok (.iconst 0, 1) := by decide +kernel
theorem dL_law_844 : decode cL_law 844 = .ok (.ireturn, 1) := by decide +kernel
theorem dL_law_845 : decode cL_law 845 = .ok (.iload 6, 2) := by decide +kernel
theorem dL_law_847 : decode cL_law 847 = .ok (.ifCond .ne 15, 3) := by decide +kernel
theorem dL_law_850 : decode cL_law 850 = .ok (.aload_n 3, 1) := by decide +kernel
theorem dL_law_851 : decode cL_law 851 = .ok (.iconst 0, 1) := by decide +kernel
theorem dL_law_852 : decode cL_law 852 = .ok (.laload, 1) := by decide +kernel
theorem dL_law_853 : decode cL_law 853 = .ok (.iload 7, 2) := by decide +kernel
theorem dL_law_855 : decode cL_law 855 = .ok (.i2l, 1) := by decide +kernel
theorem dL_law_856 : decode cL_law 856 = .ok (.lcmp, 1) := by decide +kernel
theorem dL_law_857 : decode cL_law 857 = .ok (.ifCond .eq 5, 3) := by decide +kernel
theorem dL_law_860 : decode cL_law 860 = .ok (.iconst 0, 1) := by decide +kernel
theorem dL_law_861 : decode cL_law 861 = .ok (.ireturn, 1) := by decide +kernel
theorem dL_law_862 : decode cL_law 862 = .ok (.goto 985, 3) := by decide +kernel
theorem dL_law_865 : decode cL_law 865 = .ok (.aload_n 1, 1) := by decide +kernel
theorem dL_law_866 : decode cL_law 866 = .ok (.aload_n 0, 1) := by decide +kernel
theorem dL_law_867 : decode cL_law 867 = .ok (.iload 5, 2) := by decide +kernel
theorem dL_law_869 : decode cL_law 869 = .ok (.iconst 1, 1) := by decide +kernel
theorem dL_law_870 : decode cL_law 870 = .ok (.iadd, 1) := by decide +kernel
theorem dL_law_871 : decode cL_law 871 = .ok (.iaload, 1) := by decide +kernel
theorem dL_law_872 : decode cL_law 872 = .ok (.aload_n 3, 1) := by decide +kernel
theorem dL_law_873 : decode cL_law 873 = .ok (.invokestatic 152, 3) := by decide +kernel
theorem dL_law_876 : decode cL_law 876 = .ok (.istore 6, 2) := by decide +kernel
theorem dL_law_878 : decode cL_law 878 = .ok (.aload_n 2, 1) := by decide +kernel
theorem dL_law_879 : decode cL_law 879 = .ok (.aload_n 0, 1) := by decide +kernel
theorem dL_law_880 : decode cL_law 880 = .ok (.iload 5, 2) := by decide +kernel
theorem dL_law_882 : decode cL_law 882 = .ok (.iconst 1, 1) := by decide +kernel
theorem dL_law_883 : decode cL_law 883 = .ok (.iadd, 1) := by decide +kernel
theorem dL_law_884 : decode cL_law 884 = .ok (.iaload, 1) := by decide +kernel
theorem dL_law_885 : decode cL_law 885 = .ok (.invokevirtual 154, 3) := by decide +kernel
theorem dL_law_888 : decode cL_law 888 = .ok (.istore 7, 2) := by decide +kernel
theorem dL_law_890 : decode cL_law 890 = .ok (.aload_n 2, 1) := by decide +kernel
theorem dL_law_891 : decode cL_law 891 = .ok (.invokevirtual 115, 3) := by decide +kernel
theorem dL_law_894 : decode cL_law 894 = .ok (.iload 6, 2) := by decide +kernel
theorem dL_law_896 : decode cL_law 896 = .ok (.if_icmp .eq 5, 3) := by decide +kernel
theorem dL_law_899 : decode cL_law 899 = .ok (.iconst 0, 1) := by decide +kernel
theorem dL_law_900 : decode cL_law 900 = .ok (.ireturn, 1) := by decide +kernel
theorem dL_law_901 : decode cL_law 901 = .ok (.iload 6, 2) := by decide +kernel
theorem dL_law_903 : decode cL_law 903 = .ok (.ifCond .ne 15, 3) := by decide +kernel
theorem dL_law_906 : decode cL_law 906 = .ok (.aload_n 3, 1) := by decide +kernel
theorem dL_law_907 : decode cL_law 907 = .ok (.iconst 0, 1) := by decide +kernel
theorem dL_law_908 : decode cL_law 908 = .ok (.laload, 1) := by decide +kernel
theorem dL_law_909 : decode cL_law 909 = .ok (.iload 7, 2) := by decide +kernel
theorem dL_law_911 : decode cL_law 911 = .ok (.i2l, 1) := by decide +kernel
theorem dL_law_912 : decode cL_law 912 = .ok (.lcmp, 1) := by decide +kernel
theorem dL_law_913 : decode cL_law 913 = .ok (.ifCond .eq 5, 3) := by decide +kernel
theorem dL_law_916 : decode cL_law 916 = .ok (.iconst 0, 1) := by decide +kernel
theorem dL_law_917 : decode cL_law 917 = .ok (.ireturn, 1) := by decide +kernel
theorem dL_law_918 : decode cL_law 918 = .ok (.goto 929, 3) := by decide +kernel
theorem dL_law_921 : decode cL_law 921 = .ok (.aload_n 1, 1) := by decide +kernel
theorem dL_law_922 : decode cL_law 922 = .ok (.aload_n 0, 1) := by decide +kernel
theorem dL_law_923 : decode cL_law 923 = .ok (.iload 5, 2) := by decide +kernel
theorem dL_law_925 : decode cL_law 925 = .ok (.iconst 1, 1) := by decide +kernel
theorem dL_law_926 : decode cL_law 926 = .ok (.iadd, 1) := by decide +kernel
theorem dL_law_927 : decode cL_law 927 = .ok (.iaload, 1) := by decide +kernel
theorem dL_law_928 : decode cL_law 928 = .ok (.aload_n 0, 1) := by decide +kernel
theorem dL_law_929 : decode cL_law 929 = .ok (.iload 5, 2) := by decide +kernel
theorem dL_law_931 : decode cL_law 931 = .ok (.iconst 2, 1) := by decide +kernel
theorem dL_law_932 : decode cL_law 932 = .ok (.iadd, 1) := by decide +kernel
theorem dL_law_933 : decode cL_law 933 = .ok (.iaload, 1) := by decide +kernel
theorem dL_law_934 : decode cL_law 934 = .ok (.aload_n 0, 1) := by decide +kernel
theorem dL_law_935 : decode cL_law 935 = .ok (.iload 5, 2) := by decide +kernel
theorem dL_law_937 : decode cL_law 937 = .ok (.iconst 3, 1) := by decide +kernel
theorem dL_law_938 : decode cL_law 938 = .ok (.iadd, 1) := by decide +kernel
theorem dL_law_939 : decode cL_law 939 = .ok (.iaload, 1) := by decide +kernel
theorem dL_law_940 : decode cL_law 940 = .ok (.aload_n 0, 1) := by decide +kernel
theorem dL_law_941 : decode cL_law 941 = .ok (.iload 5, 2) := by decide +kernel
theorem dL_law_943 : decode cL_law 943 = .ok (.iconst 4, 1) := by decide +kernel
theorem dL_law_944 : decode cL_law 944 = .ok (.iadd, 1) := by decide +kernel
theorem dL_law_945 : decode cL_law 945 = .ok (.iaload, 1) := by decide +kernel
theorem dL_law_946 : decode cL_law 946 = .ok (.aload_n 3, 1) := by decide +kernel
theorem dL_law_947 : decode cL_law 947 = .ok (.invokestatic 155, 3) := by decide +kernel
theorem dL_law_950 : decode cL_law 950 = .ok (.istore 6, 2) := by decide +kernel
theorem dL_law_952 : decode cL_law 952 = .ok (.aload_n 2, 1) := by decide +kernel
theorem dL_law_953 : decode cL_law 953 = .ok (.aload_n 0, 1) := by decide +kernel
theorem dL_law_954 : decode cL_law 954 = .ok (.iload 5, 2) := by decide +kernel
theorem dL_law_956 : decode cL_law 956 = .ok (.iconst 1, 1) := by decide +kernel
theorem dL_law_957 : decode cL_law 957 = .ok (.iadd, 1) := by decide +kernel
theorem dL_law_958 : decode cL_law 958 = .ok (.iaload, 1) := by decide +kernel
theorem dL_law_959 : decode cL_law 959 = .ok (.aload_n 0, 1) := by decide +kernel
theorem dL_law_960 : decode cL_law 960 = .ok (.iload 5, 2) := by decide +kernel
theorem dL_law_962 : decode cL_law 962 = .ok (.iconst 2, 1) := by decide +kernel
theorem dL_law_963 : decode cL_law 963 = .ok (.iadd, 1) := by decide +kernel
theorem dL_law_964 : decode cL_law 964 = .ok (.iaload, 1) := by decide +kernel
theorem dL_law_965 : decode cL_law 965 = .ok (.aload_n 0, 1) := by decide +kernel
theorem dL_law_966 : decode cL_law 966 = .ok (.iload 5, 2) := by decide +kernel
theorem dL_law_968 : decode cL_law 968 = .ok (.iconst 3, 1) := by decide +kernel
theorem dL_law_969 : decode cL_law 969 = .ok (.iadd, 1) := by decide +kernel
theorem dL_law_970 : decode cL_law 970 = .ok (.iaload, 1) := by decide +kernel
theorem dL_law_971 : decode cL_law 971 = .ok (.aload_n 0, 1) := by decide +kernel
theorem dL_law_972 : decode cL_law 972 = .ok (.iload 5, 2) := by decide +kernel
theorem dL_law_974 : decode cL_law 974 = .ok (.iconst 4, 1) := by decide +kernel
theorem dL_law_975 : decode cL_law 975 = .ok (.iadd, 1) := by decide +kernel
theorem dL_law_976 : decode cL_law 976 = .ok (.iaload, 1) := by decide +kernel
theorem dL_law_977 : decode cL_law 977 = .ok (.invokevirtual 157, 3) := by decide +kernel
theorem dL_law_980 : decode cL_law 980 = .ok (.istore 7, 2) := by decide +kernel
theorem dL_law_982 : decode cL_law 982 = .ok (.aload_n 2, 1) := by decide +kernel
theorem dL_law_983 : decode cL_law 983 = .ok (.invokevirtual 115, 3) := by decide +kernel
theorem dL_law_986 : decode cL_law 986 = .ok (.iload 6, 2) := by decide +kernel
theorem dL_law_988 : decode cL_law 988 = .ok (.if_icmp .eq 5, 3) := by decide +kernel
theorem dL_law_991 : decode cL_law 991 = .ok (.iconst 0, 1) := by decide +kernel
theorem dL_law_992 : decode cL_law 992 = .ok (.ireturn, 1) := by decide +kernel
theorem dL_law_993 : decode cL_law 993 = .ok (.iload 6, 2) := by decide +kernel
theorem dL_law_995 : decode cL_law 995 = .ok (.ifCond .ne 15, 3) := by decide +kernel
theorem dL_law_998 : decode cL_law 998 = .ok (.aload_n 3, 1) := by decide +kernel
theorem dL_law_999 : decode cL_law 999 = .ok (.iconst 0, 1) := by decide +kernel
theorem dL_law_1000 : decode cL_law 1000 = .ok (.laload, 1) := by decide +kernel
theorem dL_law_1001 : decode cL_law 1001 = .ok (.iload 7, 2) := by decide +kernel
theorem dL_law_1003 : decode cL_law 1003 = .ok (.i2l, 1) := by decide +kernel
theorem dL_law_1004 : decode cL_law 1004 = .ok (.lcmp, 1) := by decide +kernel
theorem dL_law_1005 : decode cL_law 1005 = .ok (.ifCond .eq 5, 3) := by decide +kernel
theorem dL_law_1008 : decode cL_law 1008 = .ok (.iconst 0, 1) := by decide +kernel
theorem dL_law_1009 : decode cL_law 1009 = .ok (.ireturn, 1) := by decide +kernel
theorem dL_law_1010 : decode cL_law 1010 = .ok (.goto 837, 3) := by decide +kernel
theorem dL_law_1013 : decode cL_law 1013 = .ok (.aload_n 1, 1) := by decide +kernel
theorem dL_law_1014 : decode cL_law 1014 = .ok (.aload_n 0, 1) := by decide +kernel
theorem dL_law_1015 : decode cL_law 1015 = .ok (.iload 5, 2) := by decide +kernel
theorem dL_law_1017 : decode cL_law 1017 = .ok (.iconst 1, 1) := by decide +kernel
theorem dL_law_1018 : decode cL_law 1018 = .ok (.iadd, 1) := by decide +kernel
theorem dL_law_1019 : decode cL_law 1019 = .ok (.iaload, 1) := by decide +kernel
theorem dL_law_1020 : decode cL_law 1020 = .ok (.aload_n 3, 1) := by decide +kernel
theorem dL_law_1021 : decode cL_law 1021 = .ok (.invokestatic 158, 3) := by decide +kernel
theorem dL_law_1024 : decode cL_law 1024 = .ok (.istore 6, 2) := by decide +kernel
theorem dL_law_1026 : decode cL_law 1026 = .ok (.aload_n 2, 1) := by decide +kernel
theorem dL_law_1027 : decode cL_law 1027 = .ok (.aload_n 0, 1) := by decide +kernel
theorem dL_law_1028 : decode cL_law 1028 = .ok (.iload 5, 2) := by decide +kernel
theorem dL_law_1030 : decode cL_law 1030 = .ok (.iconst 1, 1) := by decide +kernel
theorem dL_law_1031 : decode cL_law 1031 = .ok (.iadd, 1) := by decide +kernel
theorem dL_law_1032 : decode cL_law 1032 = .ok (.iaload, 1) := by decide +kernel
theorem dL_law_1033 : decode cL_law 1033 = .ok (.invokevirtual 160, 3) := by decide +kernel
theorem dL_law_1036 : decode cL_law 1036 = .ok (.istore 7, 2) := by decide +kernel
theorem dL_law_1038 : decode cL_law 1038 = .ok (.aload_n 2, 1) := by decide +kernel
theorem dL_law_1039 : decode cL_law 1039 = .ok (.invokevirtual 115, 3) := by decide +kernel
theorem dL_law_1042 : decode cL_law 1042 = .ok (.iload 6, 2) := by decide +kernel
theorem dL_law_1044 : decode cL_law 1044 = .ok (.if_icmp .eq 5, 3) := by decide +kernel
theorem dL_law_1047 : decode cL_law 1047 = .ok (.iconst 0, 1) := by decide +kernel
theorem dL_law_1048 : decode cL_law 1048 = .ok (.ireturn, 1) := by decide +kernel
theorem dL_law_1049 : decode cL_law 1049 = .ok (.iload 6, 2) := by decide +kernel
theorem dL_law_1051 : decode cL_law 1051 = .ok (.ifCond .ne 15, 3) := by decide +kernel
theorem dL_law_1054 : decode cL_law 1054 = .ok (.aload_n 3, 1) := by decide +kernel
theorem dL_law_1055 : decode cL_law 1055 = .ok (.iconst 0, 1) := by decide +kernel
theorem dL_law_1056 : decode cL_law 1056 = .ok (.laload, 1) := by decide +kernel
theorem dL_law_1057 : decode cL_law 1057 = .ok (.iload 7, 2) := by decide +kernel
theorem dL_law_1059 : decode cL_law 1059 = .ok (.i2l, 1) := by decide +kernel
theorem dL_law_1060 : decode cL_law 1060 = .ok (.lcmp, 1) := by decide +kernel
theorem dL_law_1061 : decode cL_law 1061 = .ok (.ifCond .eq 5, 3) := by decide +kernel
theorem dL_law_1064 : decode cL_law 1064 = .ok (.iconst 0, 1) := by decide +kernel
theorem dL_law_1065 : decode cL_law 1065 = .ok (.ireturn, 1) := by decide +kernel
theorem dL_law_1066 : decode cL_law 1066 = .ok (.goto 781, 3) := by decide +kernel
theorem dL_law_1069 : decode cL_law 1069 = .ok (.aload_n 1, 1) := by decide +kernel
theorem dL_law_1070 : decode cL_law 1070 = .ok (.aload_n 0, 1) := by decide +kernel
theorem dL_law_1071 : decode cL_law 1071 = .ok (.iload 5, 2) := by decide +kernel
theorem dL_law_1073 : decode cL_law 1073 = .ok (.iconst 1, 1) := by decide +kernel
theorem dL_law_1074 : decode cL_law 1074 = .ok (.iadd, 1) := by decide +kernel
theorem dL_law_1075 : decode cL_law 1075 = .ok (.iaload, 1) := by decide +kernel
theorem dL_law_1076 : decode cL_law 1076 = .ok (.aload_n 0, 1) := by decide +kernel
theorem dL_law_1077 : decode cL_law 1077 = .ok (.iload 5, 2) := by decide +kernel
theorem dL_law_1079 : decode cL_law 1079 = .ok (.iconst 2, 1) := by decide +kernel
theorem dL_law_1080 : decode cL_law 1080 = .ok (.iadd, 1) := by decide +kernel
theorem dL_law_1081 : decode cL_law 1081 = .ok (.iaload, 1) := by decide +kernel
theorem dL_law_1082 : decode cL_law 1082 = .ok (.aload_n 3, 1) := by decide +kernel
theorem dL_law_1083 : decode cL_law 1083 = .ok (.invokestatic 161, 3) := by decide +kernel
theorem dL_law_1086 : decode cL_law 1086 = .ok (.istore 6, 2) := by decide +kernel
theorem dL_law_1088 : decode cL_law 1088 = .ok (.aload_n 2, 1) := by decide +kernel
theorem dL_law_1089 : decode cL_law 1089 = .ok (.aload_n 0, 1) := by decide +kernel
theorem dL_law_1090 : decode cL_law 1090 = .ok (.iload 5, 2) := by decide +kernel
theorem dL_law_1092 : decode cL_law 1092 = .ok (.iconst 1, 1) := by decide +kernel
theorem dL_law_1093 : decode cL_law 1093 = .ok (.iadd, 1) := by decide +kernel
theorem dL_law_1094 : decode cL_law 1094 = .ok (.iaload, 1) := by decide +kernel
theorem dL_law_1095 : decode cL_law 1095 = .ok (.aload_n 0, 1) := by decide +kernel
theorem dL_law_1096 : decode cL_law 1096 = .ok (.iload 5, 2) := by decide +kernel
theorem dL_law_1098 : decode cL_law 1098 = .ok (.iconst 2, 1) := by decide +kernel
theorem dL_law_1099 : decode cL_law 1099 = .ok (.iadd, 1) := by decide +kernel
theorem dL_law_1100 : decode cL_law 1100 = .ok (.iaload, 1) := by decide +kernel
theorem dL_law_1101 : decode cL_law 1101 = .ok (.invokevirtual 163, 3) := by decide +kernel
theorem dL_law_1104 : decode cL_law 1104 = .ok (.istore 7, 2) := by decide +kernel
theorem dL_law_1106 : decode cL_law 1106 = .ok (.aload_n 2, 1) := by decide +kernel
theorem dL_law_1107 : decode cL_law 1107 = .ok (.invokevirtual 115, 3) := by decide +kernel
theorem dL_law_1110 : decode cL_law 1110 = .ok (.iload 6, 2) := by decide +kernel
theorem dL_law_1112 : decode cL_law 1112 = .ok (.if_icmp .eq 5, 3) := by decide +kernel
theorem dL_law_1115 : decode cL_law 1115 = .ok (.iconst 0, 1) := by decide +kernel
theorem dL_law_1116 : decode cL_law 1116 = .ok (.ireturn, 1) := by decide +kernel
theorem dL_law_1117 : decode cL_law 1117 = .ok (.iload 6, 2) := by decide +kernel
theorem dL_law_1119 : decode cL_law 1119 = .ok (.ifCond .ne 15, 3) := by decide +kernel
theorem dL_law_1122 : decode cL_law 1122 = .ok (.aload_n 3, 1) := by decide +kernel
theorem dL_law_1123 : decode cL_law 1123 = .ok (.iconst 0, 1) := by decide +kernel
theorem dL_law_1124 : decode cL_law 1124 = .ok (.laload, 1) := by decide +kernel
theorem dL_law_1125 : decode cL_law 1125 = .ok (.iload 7, 2) := by decide +kernel
theorem dL_law_1127 : decode cL_law 1127 = .ok (.i2l, 1) := by decide +kernel
theorem dL_law_1128 : decode cL_law 1128 = .ok (.lcmp, 1) := by decide +kernel
theorem dL_law_1129 : decode cL_law 1129 = .ok (.ifCond .eq 5, 3) := by decide +kernel
theorem dL_law_1132 : decode cL_law 1132 = .ok (.iconst 0, 1) := by decide +kernel
theorem dL_law_1133 : decode cL_law 1133 = .ok (.ireturn, 1) := by decide +kernel
theorem dL_law_1134 : decode cL_law 1134 = .ok (.goto 713, 3) := by decide +kernel
theorem dL_law_1137 : decode cL_law 1137 = .ok (.aload_n 1, 1) := by decide +kernel
theorem dL_law_1138 : decode cL_law 1138 = .ok (.aload_n 0, 1) := by decide +kernel
theorem dL_law_1139 : decode cL_law 1139 = .ok (.iload 5, 2) := by decide +kernel
theorem dL_law_1141 : decode cL_law 1141 = .ok (.iconst 1, 1) := by decide +kernel
theorem dL_law_1142 : decode cL_law 1142 = .ok (.iadd, 1) := by decide +kernel
theorem dL_law_1143 : decode cL_law 1143 = .ok (.iaload, 1) := by decide +kernel
theorem dL_law_1144 : decode cL_law 1144 = .ok (.aload_n 3, 1) := by decide +kernel
theorem dL_law_1145 : decode cL_law 1145 = .ok (.invokestatic 164, 3) := by decide +kernel
theorem dL_law_1148 : decode cL_law 1148 = .ok (.istore 6, 2) := by decide +kernel
theorem dL_law_1150 : decode cL_law 1150 = .ok (.aload_n 2, 1) := by decide +kernel
theorem dL_law_1151 : decode cL_law 1151 = .ok (.aload_n 0, 1) := by decide +kernel
theorem dL_law_1152 : decode cL_law 1152 = .ok (.iload 5, 2) := by decide +kernel
theorem dL_law_1154 : decode cL_law 1154 = .ok (.iconst 1, 1) := by decide +kernel
theorem dL_law_1155 : decode cL_law 1155 = .ok (.iadd, 1) := by decide +kernel
theorem dL_law_1156 : decode cL_law 1156 = .ok (.iaload, 1) := by decide +kernel
theorem dL_law_1157 : decode cL_law 1157 = .ok (.invokevirtual 166, 3) := by decide +kernel
theorem dL_law_1160 : decode cL_law 1160 = .ok (.istore 7, 2) := by decide +kernel
theorem dL_law_1162 : decode cL_law 1162 = .ok (.aload_n 2, 1) := by decide +kernel
theorem dL_law_1163 : decode cL_law 1163 = .ok (.invokevirtual 115, 3) := by decide +kernel
theorem dL_law_1166 : decode cL_law 1166 = .ok (.iload 6, 2) := by decide +kernel
theorem dL_law_1168 : decode cL_law 1168 = .ok (.if_icmp .eq 5, 3) := by decide +kernel
theorem dL_law_1171 : decode cL_law 1171 = .ok (.iconst 0, 1) := by decide +kernel
theorem dL_law_1172 : decode cL_law 1172 = .ok (.ireturn, 1) := by decide +kernel
theorem dL_law_1173 : decode cL_law 1173 = .ok (.iload 6, 2) := by decide +kernel
theorem dL_law_1175 : decode cL_law 1175 = .ok (.ifCond .ne 15, 3) := by decide +kernel
theorem dL_law_1178 : decode cL_law 1178 = .ok (.aload_n 3, 1) := by decide +kernel
theorem dL_law_1179 : decode cL_law 1179 = .ok (.iconst 0, 1) := by decide +kernel
theorem dL_law_1180 : decode cL_law 1180 = .ok (.laload, 1) := by decide +kernel
theorem dL_law_1181 : decode cL_law 1181 = .ok (.iload 7, 2) := by decide +kernel
theorem dL_law_1183 : decode cL_law 1183 = .ok (.i2l, 1) := by decide +kernel
theorem dL_law_1184 : decode cL_law 1184 = .ok (.lcmp, 1) := by decide +kernel
theorem dL_law_1185 : decode cL_law 1185 = .ok (.ifCond .eq 5, 3) := by decide +kernel
theorem dL_law_1188 : decode cL_law 1188 = .ok (.iconst 0, 1) := by decide +kernel
theorem dL_law_1189 : decode cL_law 1189 = .ok (.ireturn, 1) := by decide +kernel
theorem dL_law_1190 : decode cL_law 1190 = .ok (.goto 657, 3) := by decide +kernel
theorem dL_law_1193 : decode cL_law 1193 = .ok (.aload_n 1, 1) := by decide +kernel
theorem dL_law_1194 : decode cL_law 1194 = .ok (.aload_n 0, 1) := by decide +kernel
theorem dL_law_1195 : decode cL_law 1195 = .ok (.iload 5, 2) := by decide +kernel
theorem dL_law_1197 : decode cL_law 1197 = .ok (.iconst 1, 1) := by decide +kernel
theorem dL_law_1198 : decode cL_law 1198 = .ok (.iadd, 1) := by decide +kernel
theorem dL_law_1199 : decode cL_law 1199 = .ok (.iaload, 1) := by decide +kernel
theorem dL_law_1200 : decode cL_law 1200 = .ok (.aload_n 0, 1) := by decide +kernel
theorem dL_law_1201 : decode cL_law 1201 = .ok (.iload 5, 2) := by decide +kernel
theorem dL_law_1203 : decode cL_law 1203 = .ok (.iconst 2, 1) := by decide +kernel
theorem dL_law_1204 : decode cL_law 1204 = .ok (.iadd, 1) := by decide +kernel
theorem dL_law_1205 : decode cL_law 1205 = .ok (.iaload, 1) := by decide +kernel
theorem dL_law_1206 : decode cL_law 1206 = .ok (.aload_n 3, 1) := by decide +kernel
theorem dL_law_1207 : decode cL_law 1207 = .ok (.invokestatic 167, 3) := by decide +kernel
theorem dL_law_1210 : decode cL_law 1210 = .ok (.istore 6, 2) := by decide +kernel
theorem dL_law_1212 : decode cL_law 1212 = .ok (.aload_n 2, 1) := by decide +kernel
theorem dL_law_1213 : decode cL_law 1213 = .ok (.aload_n 0, 1) := by decide +kernel
theorem dL_law_1214 : decode cL_law 1214 = .ok (.iload 5, 2) := by decide +kernel
theorem dL_law_1216 : decode cL_law 1216 = .ok (.iconst 1, 1) := by decide +kernel
theorem dL_law_1217 : decode cL_law 1217 = .ok (.iadd, 1) := by decide +kernel
theorem dL_law_1218 : decode cL_law 1218 = .ok (.iaload, 1) := by decide +kernel
theorem dL_law_1219 : decode cL_law 1219 = .ok (.aload_n 0, 1) := by decide +kernel
theorem dL_law_1220 : decode cL_law 1220 = .ok (.iload 5, 2) := by decide +kernel
theorem dL_law_1222 : decode cL_law 1222 = .ok (.iconst 2, 1) := by decide +kernel
theorem dL_law_1223 : decode cL_law 1223 = .ok (.iadd, 1) := by decide +kernel
theorem dL_law_1224 : decode cL_law 1224 = .ok (.iaload, 1) := by decide +kernel
theorem dL_law_1225 : decode cL_law 1225 = .ok (.invokevirtual 169, 3) := by decide +kernel
theorem dL_law_1228 : decode cL_law 1228 = .ok (.istore 7, 2) := by decide +kernel
theorem dL_law_1230 : decode cL_law 1230 = .ok (.aload_n 2, 1) := by decide +kernel
theorem dL_law_1231 : decode cL_law 1231 = .ok (.invokevirtual 115, 3) := by decide +kernel
theorem dL_law_1234 : decode cL_law 1234 = .ok (.iload 6, 2) := by decide +kernel
theorem dL_law_1236 : decode cL_law 1236 = .ok (.if_icmp .eq 5, 3) := by decide +kernel
theorem dL_law_1239 : decode cL_law 1239 = .ok (.iconst 0, 1) := by decide +kernel
theorem dL_law_1240 : decode cL_law 1240 = .ok (.ireturn, 1) := by decide +kernel
theorem dL_law_1241 : decode cL_law 1241 = .ok (.iload 6, 2) := by decide +kernel
theorem dL_law_1243 : decode cL_law 1243 = .ok (.ifCond .ne 15, 3) := by decide +kernel
theorem dL_law_1246 : decode cL_law 1246 = .ok (.aload_n 3, 1) := by decide +kernel
theorem dL_law_1247 : decode cL_law 1247 = .ok (.iconst 0, 1) := by decide +kernel
theorem dL_law_1248 : decode cL_law 1248 = .ok (.laload, 1) := by decide +kernel
theorem dL_law_1249 : decode cL_law 1249 = .ok (.iload 7, 2) := by decide +kernel
theorem dL_law_1251 : decode cL_law 1251 = .ok (.i2l, 1) := by decide +kernel
theorem dL_law_1252 : decode cL_law 1252 = .ok (.lcmp, 1) := by decide +kernel
theorem dL_law_1253 : decode cL_law 1253 = .ok (.ifCond .eq 5, 3) := by decide +kernel
theorem dL_law_1256 : decode cL_law 1256 = .ok (.iconst 0, 1) := by decide +kernel
theorem dL_law_1257 : decode cL_law 1257 = .ok (.ireturn, 1) := by decide +kernel
theorem dL_law_1258 : decode cL_law 1258 = .ok (.goto 589, 3) := by decide +kernel
theorem dL_law_1261 : decode cL_law 1261 = .ok (.aload_n 1, 1) := by decide +kernel
theorem dL_law_1262 : decode cL_law 1262 = .ok (.aload_n 0, 1) := by decide +kernel
theorem dL_law_1263 : decode cL_law 1263 = .ok (.iload 5, 2) := by decide +kernel
theorem dL_law_1265 : decode cL_law 1265 = .ok (.iconst 1, 1) := by decide +kernel
theorem dL_law_1266 : decode cL_law 1266 = .ok (.iadd, 1) := by decide +kernel
theorem dL_law_1267 : decode cL_law 1267 = .ok (.iaload, 1) := by decide +kernel
theorem dL_law_1268 : decode cL_law 1268 = .ok (.aload_n 3, 1) := by decide +kernel
theorem dL_law_1269 : decode cL_law 1269 = .ok (.invokestatic 170, 3) := by decide +kernel
theorem dL_law_1272 : decode cL_law 1272 = .ok (.istore 6, 2) := by decide +kernel
theorem dL_law_1274 : decode cL_law 1274 = .ok (.aload_n 2, 1) := by decide +kernel
theorem dL_law_1275 : decode cL_law 1275 = .ok (.aload_n 0, 1) := by decide +kernel
theorem dL_law_1276 : decode cL_law 1276 = .ok (.iload 5, 2) := by decide +kernel
theorem dL_law_1278 : decode cL_law 1278 = .ok (.iconst 1, 1) := by decide +kernel
theorem dL_law_1279 : decode cL_law 1279 = .ok (.iadd, 1) := by decide +kernel
theorem dL_law_1280 : decode cL_law 1280 = .ok (.iaload, 1) := by decide +kernel
theorem dL_law_1281 : decode cL_law 1281 = .ok (.invokevirtual 172, 3) := by decide +kernel
theorem dL_law_1284 : decode cL_law 1284 = .ok (.istore 7, 2) := by decide +kernel
theorem dL_law_1286 : decode cL_law 1286 = .ok (.aload_n 2, 1) := by decide +kernel
theorem dL_law_1287 : decode cL_law 1287 = .ok (.invokevirtual 115, 3) := by decide +kernel
theorem dL_law_1290 : decode cL_law 1290 = .ok (.iload 6, 2) := by decide +kernel
theorem dL_law_1292 : decode cL_law 1292 = .ok (.if_icmp .eq 5, 3) := by decide +kernel
theorem dL_law_1295 : decode cL_law 1295 = .ok (.iconst 0, 1) := by decide +kernel
theorem dL_law_1296 : decode cL_law 1296 = .ok (.ireturn, 1) := by decide +kernel
theorem dL_law_1297 : decode cL_law 1297 = .ok (.iload 6, 2) := by decide +kernel
theorem dL_law_1299 : decode cL_law 1299 = .ok (.ifCond .ne 15, 3) := by decide +kernel
theorem dL_law_1302 : decode cL_law 1302 = .ok (.aload_n 3, 1) := by decide +kernel
theorem dL_law_1303 : decode cL_law 1303 = .ok (.iconst 0, 1) := by decide +kernel
theorem dL_law_1304 : decode cL_law 1304 = .ok (.laload, 1) := by decide +kernel
theorem dL_law_1305 : decode cL_law 1305 = .ok (.iload 7, 2) := by decide +kernel
theorem dL_law_1307 : decode cL_law 1307 = .ok (.i2l, 1) := by decide +kernel
theorem dL_law_1308 : decode cL_law 1308 = .ok (.lcmp, 1) := by decide +kernel
theorem dL_law_1309 : decode cL_law 1309 = .ok (.ifCond .eq 5, 3) := by decide +kernel
theorem dL_law_1312 : decode cL_law 1312 = .ok (.iconst 0, 1) := by decide +kernel
theorem dL_law_1313 : decode cL_law 1313 = .ok (.ireturn, 1) := by decide +kernel
theorem dL_law_1314 : decode cL_law 1314 = .ok (.goto 533, 3) := by decide +kernel
theorem dL_law_1317 : decode cL_law 1317 = .ok (.aload_n 1, 1) := by decide +kernel
theorem dL_law_1318 : decode cL_law 1318 = .ok (.aload_n 0, 1) := by decide +kernel
theorem dL_law_1319 : decode cL_law 1319 = .ok (.iload 5, 2) := by decide +kernel
theorem dL_law_1321 : decode cL_law 1321 = .ok (.iconst 1, 1) := by decide +kernel
theorem dL_law_1322 : decode cL_law 1322 = .ok (.iadd, 1) := by decide +kernel
theorem dL_law_1323 : decode cL_law 1323 = .ok (.iaload, 1) := by decide +kernel
theorem dL_law_1324 : decode cL_law 1324 = .ok (.aload_n 0, 1) := by decide +kernel
theorem dL_law_1325 : decode cL_law 1325 = .ok (.iload 5, 2) := by decide +kernel
theorem dL_law_1327 : decode cL_law 1327 = .ok (.iconst 2, 1) := by decide +kernel
theorem dL_law_1328 : decode cL_law 1328 = .ok (.iadd, 1) := by decide +kernel
theorem dL_law_1329 : decode cL_law 1329 = .ok (.iaload, 1) := by decide +kernel
theorem dL_law_1330 : decode cL_law 1330 = .ok (.aload_n 3, 1) := by decide +kernel
theorem dL_law_1331 : decode cL_law 1331 = .ok (.invokestatic 173, 3) := by decide +kernel
theorem dL_law_1334 : decode cL_law 1334 = .ok (.istore 6, 2) := by decide +kernel
theorem dL_law_1336 : decode cL_law 1336 = .ok (.aload_n 2, 1) := by decide +kernel
theorem dL_law_1337 : decode cL_law 1337 = .ok (.aload_n 0, 1) := by decide +kernel
theorem dL_law_1338 : decode cL_law 1338 = .ok (.iload 5, 2) := by decide +kernel
theorem dL_law_1340 : decode cL_law 1340 = .ok (.iconst 1, 1) := by decide +kernel
theorem dL_law_1341 : decode cL_law 1341 = .ok (.iadd, 1) := by decide +kernel
theorem dL_law_1342 : decode cL_law 1342 = .ok (.iaload, 1) := by decide +kernel
theorem dL_law_1343 : decode cL_law 1343 = .ok (.aload_n 0, 1) := by decide +kernel
theorem dL_law_1344 : decode cL_law 1344 = .ok (.iload 5, 2) := by decide +kernel
theorem dL_law_1346 : decode cL_law 1346 = .ok (.iconst 2, 1) := by decide +kernel
theorem dL_law_1347 : decode cL_law 1347 = .ok (.iadd, 1) := by decide +kernel
theorem dL_law_1348 : decode cL_law 1348 = .ok (.iaload, 1) := by decide +kernel
theorem dL_law_1349 : decode cL_law 1349 = .ok (.invokevirtual 175, 3) := by decide +kernel
theorem dL_law_1352 : decode cL_law 1352 = .ok (.istore 7, 2) := by decide +kernel
theorem dL_law_1354 : decode cL_law 1354 = .ok (.aload_n 2, 1) := by decide +kernel
theorem dL_law_1355 : decode cL_law 1355 = .ok (.invokevirtual 115, 3) := by decide +kernel
theorem dL_law_1358 : decode cL_law 1358 = .ok (.iload 6, 2) := by decide +kernel
theorem dL_law_1360 : decode cL_law 1360 = .ok (.if_icmp .eq 5, 3) := by decide +kernel
theorem dL_law_1363 : decode cL_law 1363 = .ok (.iconst 0, 1) := by decide +kernel
theorem dL_law_1364 : decode cL_law 1364 = .ok (.ireturn, 1) := by decide +kernel
theorem dL_law_1365 : decode cL_law 1365 = .ok (.iload 6, 2) := by decide +kernel
theorem dL_law_1367 : decode cL_law 1367 = .ok (.ifCond .ne 15, 3) := by decide +kernel
theorem dL_law_1370 : decode cL_law 1370 = .ok (.aload_n 3, 1) := by decide +kernel
theorem dL_law_1371 : decode cL_law 1371 = .ok (.iconst 0, 1) := by decide +kernel
theorem dL_law_1372 : decode cL_law 1372 = .ok (.laload, 1) := by decide +kernel
theorem dL_law_1373 : decode cL_law 1373 = .ok (.iload 7, 2) := by decide +kernel
theorem dL_law_1375 : decode cL_law 1375 = .ok (.i2l, 1) := by decide +kernel
theorem dL_law_1376 : decode cL_law 1376 = .ok (.lcmp, 1) := by decide +kernel
theorem dL_law_1377 : decode cL_law 1377 = .ok (.ifCond .eq 5, 3) := by decide +kernel
theorem dL_law_1380 : decode cL_law 1380 = .ok (.iconst 0, 1) := by decide +kernel
theorem dL_law_1381 : decode cL_law 1381 = .ok (.ireturn, 1) := by decide +kernel
theorem dL_law_1382 : decode cL_law 1382 = .ok (.goto 465, 3) := by decide +kernel
theorem dL_law_1385 : decode cL_law 1385 = .ok (.aload_n 1, 1) := by decide +kernel
theorem dL_law_1386 : decode cL_law 1386 = .ok (.aload_n 0, 1) := by decide +kernel
theorem dL_law_1387 : decode cL_law 1387 = .ok (.iload 5, 2) := by decide +kernel
theorem dL_law_1389 : decode cL_law 1389 = .ok (.iconst 1, 1) := by decide +kernel
theorem dL_law_1390 : decode cL_law 1390 = .ok (.iadd, 1) := by decide +kernel
theorem dL_law_1391 : decode cL_law 1391 = .ok (.iaload, 1) := by decide +kernel
theorem dL_law_1392 : decode cL_law 1392 = .ok (.aload_n 3, 1) := by decide +kernel
theorem dL_law_1393 : decode cL_law 1393 = .ok (.invokestatic 176, 3) := by decide +kernel
theorem dL_law_1396 : decode cL_law 1396 = .ok (.istore 6, 2) := by decide +kernel
theorem dL_law_1398 : decode cL_law 1398 = .ok (.aload_n 2, 1) := by decide +kernel
theorem dL_law_1399 : decode cL_law 1399 = .ok (.aload_n 0, 1) := by decide +kernel
theorem dL_law_1400 : decode cL_law 1400 = .ok (.iload 5, 2) := by decide +kernel
theorem dL_law_1402 : decode cL_law 1402 = .ok (.iconst 1, 1) := by decide +kernel
theorem dL_law_1403 : decode cL_law 1403 = .ok (.iadd, 1) := by decide +kernel
theorem dL_law_1404 : decode cL_law 1404 = .ok (.iaload, 1) := by decide +kernel
theorem dL_law_1405 : decode cL_law 1405 = .ok (.invokevirtual 178, 3) := by decide +kernel
theorem dL_law_1408 : decode cL_law 1408 = .ok (.istore 7, 2) := by decide +kernel
theorem dL_law_1410 : decode cL_law 1410 = .ok (.aload_n 2, 1) := by decide +kernel
theorem dL_law_1411 : decode cL_law 1411 = .ok (.invokevirtual 115, 3) := by decide +kernel
theorem dL_law_1414 : decode cL_law 1414 = .ok (.iload 6, 2) := by decide +kernel
theorem dL_law_1416 : decode cL_law 1416 = .ok (.if_icmp .eq 5, 3) := by decide +kernel
theorem dL_law_1419 : decode cL_law 1419 = .ok (.iconst 0, 1) := by decide +kernel
theorem dL_law_1420 : decode cL_law 1420 = .ok (.ireturn, 1) := by decide +kernel
theorem dL_law_1421 : decode cL_law 1421 = .ok (.iload 6, 2) := by decide +kernel
theorem dL_law_1423 : decode cL_law 1423 = .ok (.ifCond .ne 15, 3) := by decide +kernel
theorem dL_law_1426 : decode cL_law 1426 = .ok (.aload_n 3, 1) := by decide +kernel
theorem dL_law_1427 : decode cL_law 1427 = .ok (.iconst 0, 1) := by decide +kernel
theorem dL_law_1428 : decode cL_law 1428 = .ok (.laload, 1) := by decide +kernel
theorem dL_law_1429 : decode cL_law 1429 = .ok (.iload 7, 2) := by decide +kernel
theorem dL_law_1431 : decode cL_law 1431 = .ok (.i2l, 1) := by decide +kernel
theorem dL_law_1432 : decode cL_law 1432 = .ok (.lcmp, 1) := by decide +kernel
theorem dL_law_1433 : decode cL_law 1433 = .ok (.ifCond .eq 5, 3) := by decide +kernel
theorem dL_law_1436 : decode cL_law 1436 = .ok (.iconst 0, 1) := by decide +kernel
theorem dL_law_1437 : decode cL_law 1437 = .ok (.ireturn, 1) := by decide +kernel
theorem dL_law_1438 : decode cL_law 1438 = .ok (.goto 409, 3) := by decide +kernel
theorem dL_law_1441 : decode cL_law 1441 = .ok (.aload_n 1, 1) := by decide +kernel
theorem dL_law_1442 : decode cL_law 1442 = .ok (.aload_n 0, 1) := by decide +kernel
theorem dL_law_1443 : decode cL_law 1443 = .ok (.iload 5, 2) := by decide +kernel
theorem dL_law_1445 : decode cL_law 1445 = .ok (.iconst 1, 1) := by decide +kernel
theorem dL_law_1446 : decode cL_law 1446 = .ok (.iadd, 1) := by decide +kernel
theorem dL_law_1447 : decode cL_law 1447 = .ok (.iaload, 1) := by decide +kernel
theorem dL_law_1448 : decode cL_law 1448 = .ok (.aload_n 3, 1) := by decide +kernel
theorem dL_law_1449 : decode cL_law 1449 = .ok (.invokestatic 179, 3) := by decide +kernel
theorem dL_law_1452 : decode cL_law 1452 = .ok (.istore 6, 2) := by decide +kernel
theorem dL_law_1454 : decode cL_law 1454 = .ok (.aload_n 2, 1) := by decide +kernel
theorem dL_law_1455 : decode cL_law 1455 = .ok (.aload_n 0, 1) := by decide +kernel
theorem dL_law_1456 : decode cL_law 1456 = .ok (.iload 5, 2) := by decide +kernel
theorem dL_law_1458 : decode cL_law 1458 = .ok (.iconst 1, 1) := by decide +kernel
theorem dL_law_1459 : decode cL_law 1459 = .ok (.iadd, 1) := by decide +kernel
theorem dL_law_1460 : decode cL_law 1460 = .ok (.iaload, 1) := by decide +kernel
theorem dL_law_1461 : decode cL_law 1461 = .ok (.invokevirtual 181, 3) := by decide +kernel
theorem dL_law_1464 : decode cL_law 1464 = .ok (.istore 7, 2) := by decide +kernel
theorem dL_law_1466 : decode cL_law 1466 = .ok (.aload_n 2, 1) := by decide +kernel
theorem dL_law_1467 : decode cL_law 1467 = .ok (.invokevirtual 115, 3) := by decide +kernel
theorem dL_law_1470 : decode cL_law 1470 = .ok (.iload 6, 2) := by decide +kernel
theorem dL_law_1472 : decode cL_law 1472 = .ok (.if_icmp .eq 5, 3) := by decide +kernel
theorem dL_law_1475 : decode cL_law 1475 = .ok (.iconst 0, 1) := by decide +kernel
theorem dL_law_1476 : decode cL_law 1476 = .ok (.ireturn, 1) := by decide +kernel
theorem dL_law_1477 : decode cL_law 1477 = .ok (.iload 6, 2) := by decide +kernel
theorem dL_law_1479 : decode cL_law 1479 = .ok (.ifCond .ne 15, 3) := by decide +kernel
theorem dL_law_1482 : decode cL_law 1482 = .ok (.aload_n 3, 1) := by decide +kernel
theorem dL_law_1483 : decode cL_law 1483 = .ok (.iconst 0, 1) := by decide +kernel
theorem dL_law_1484 : decode cL_law 1484 = .ok (.laload, 1) := by decide +kernel
theorem dL_law_1485 : decode cL_law 1485 = .ok (.iload 7, 2) := by decide +kernel
theorem dL_law_1487 : decode cL_law 1487 = .ok (.i2l, 1) := by decide +kernel
theorem dL_law_1488 : decode cL_law 1488 = .ok (.lcmp, 1) := by decide +kernel
theorem dL_law_1489 : decode cL_law 1489 = .ok (.ifCond .eq 5, 3) := by decide +kernel
theorem dL_law_1492 : decode cL_law 1492 = .ok (.iconst 0, 1) := by decide +kernel
theorem dL_law_1493 : decode cL_law 1493 = .ok (.ireturn, 1) := by decide +kernel
theorem dL_law_1494 : decode cL_law 1494 = .ok (.goto 353, 3) := by decide +kernel
theorem dL_law_1497 : decode cL_law 1497 = .ok (.aload_n 1, 1) := by decide +kernel
theorem dL_law_1498 : decode cL_law 1498 = .ok (.aload_n 3, 1) := by decide +kernel
theorem dL_law_1499 : decode cL_law 1499 = .ok (.invokestatic 182, 3) := by decide +kernel
theorem dL_law_1502 : decode cL_law 1502 = .ok (.istore 6, 2) := by decide +kernel
theorem dL_law_1504 : decode cL_law 1504 = .ok (.aload_n 2, 1) := by decide +kernel
theorem dL_law_1505 : decode cL_law 1505 = .ok (.invokevirtual 185, 3) := by decide +kernel
theorem dL_law_1508 : decode cL_law 1508 = .ok (.istore 7, 2) := by decide +kernel
theorem dL_law_1510 : decode cL_law 1510 = .ok (.aload_n 2, 1) := by decide +kernel
theorem dL_law_1511 : decode cL_law 1511 = .ok (.invokevirtual 115, 3) := by decide +kernel
theorem dL_law_1514 : decode cL_law 1514 = .ok (.iload 6, 2) := by decide +kernel
theorem dL_law_1516 : decode cL_law 1516 = .ok (.if_icmp .eq 5, 3) := by decide +kernel
theorem dL_law_1519 : decode cL_law 1519 = .ok (.iconst 0, 1) := by decide +kernel
theorem dL_law_1520 : decode cL_law 1520 = .ok (.ireturn, 1) := by decide +kernel
theorem dL_law_1521 : decode cL_law 1521 = .ok (.iload 6, 2) := by decide +kernel
theorem dL_law_1523 : decode cL_law 1523 = .ok (.ifCond .ne 15, 3) := by decide +kernel
theorem dL_law_1526 : decode cL_law 1526 = .ok (.aload_n 3, 1) := by decide +kernel
theorem dL_law_1527 : decode cL_law 1527 = .ok (.iconst 0, 1) := by decide +kernel
theorem dL_law_1528 : decode cL_law 1528 = .ok (.laload, 1) := by decide +kernel
theorem dL_law_1529 : decode cL_law 1529 = .ok (.iload 7, 2) := by decide +kernel
theorem dL_law_1531 : decode cL_law 1531 = .ok (.i2l, 1) := by decide +kernel
theorem dL_law_1532 : decode cL_law 1532 = .ok (.lcmp, 1) := by decide +kernel
theorem dL_law_1533 : decode cL_law 1533 = .ok (.ifCond .eq 5, 3) := by decide +kernel
theorem dL_law_1536 : decode cL_law 1536 = .ok (.iconst 0, 1) := by decide +kernel
theorem dL_law_1537 : decode cL_law 1537 = .ok (.ireturn, 1) := by decide +kernel
theorem dL_law_1538 : decode cL_law 1538 = .ok (.goto 309, 3) := by decide +kernel
theorem dL_law_1541 : decode cL_law 1541 = .ok (.aload_n 1, 1) := by decide +kernel
theorem dL_law_1542 : decode cL_law 1542 = .ok (.aload_n 0, 1) := by decide +kernel
theorem dL_law_1543 : decode cL_law 1543 = .ok (.iload 5, 2) := by decide +kernel
theorem dL_law_1545 : decode cL_law 1545 = .ok (.iconst 1, 1) := by decide +kernel
theorem dL_law_1546 : decode cL_law 1546 = .ok (.iadd, 1) := by decide +kernel
theorem dL_law_1547 : decode cL_law 1547 = .ok (.iaload, 1) := by decide +kernel
theorem dL_law_1548 : decode cL_law 1548 = .ok (.aload_n 0, 1) := by decide +kernel
theorem dL_law_1549 : decode cL_law 1549 = .ok (.iload 5, 2) := by decide +kernel
theorem dL_law_1551 : decode cL_law 1551 = .ok (.iconst 2, 1) := by decide +kernel
theorem dL_law_1552 : decode cL_law 1552 = .ok (.iadd, 1) := by decide +kernel
theorem dL_law_1553 : decode cL_law 1553 = .ok (.iaload, 1) := by decide +kernel
theorem dL_law_1554 : decode cL_law 1554 = .ok (.aload_n 3, 1) := by decide +kernel
theorem dL_law_1555 : decode cL_law 1555 = .ok (.invokestatic 186, 3) := by decide +kernel
theorem dL_law_1558 : decode cL_law 1558 = .ok (.istore 6, 2) := by decide +kernel
theorem dL_law_1560 : decode cL_law 1560 = .ok (.aload_n 2, 1) := by decide +kernel
theorem dL_law_1561 : decode cL_law 1561 = .ok (.aload_n 0, 1) := by decide +kernel
theorem dL_law_1562 : decode cL_law 1562 = .ok (.iload 5, 2) := by decide +kernel
theorem dL_law_1564 : decode cL_law 1564 = .ok (.iconst 1, 1) := by decide +kernel
theorem dL_law_1565 : decode cL_law 1565 = .ok (.iadd, 1) := by decide +kernel
theorem dL_law_1566 : decode cL_law 1566 = .ok (.iaload, 1) := by decide +kernel
theorem dL_law_1567 : decode cL_law 1567 = .ok (.aload_n 0, 1) := by decide +kernel
theorem dL_law_1568 : decode cL_law 1568 = .ok (.iload 5, 2) := by decide +kernel
theorem dL_law_1570 : decode cL_law 1570 = .ok (.iconst 2, 1) := by decide +kernel
theorem dL_law_1571 : decode cL_law 1571 = .ok (.iadd, 1) := by decide +kernel
theorem dL_law_1572 : decode cL_law 1572 = .ok (.iaload, 1) := by decide +kernel
theorem dL_law_1573 : decode cL_law 1573 = .ok (.invokevirtual 188, 3) := by decide +kernel
theorem dL_law_1576 : decode cL_law 1576 = .ok (.istore 7, 2) := by decide +kernel
theorem dL_law_1578 : decode cL_law 1578 = .ok (.aload_n 2, 1) := by decide +kernel
theorem dL_law_1579 : decode cL_law 1579 = .ok (.invokevirtual 115, 3) := by decide +kernel
theorem dL_law_1582 : decode cL_law 1582 = .ok (.iload 6, 2) := by decide +kernel
theorem dL_law_1584 : decode cL_law 1584 = .ok (.if_icmp .eq 5, 3) := by decide +kernel
theorem dL_law_1587 : decode cL_law 1587 = .ok (.iconst 0, 1) := by decide +kernel
theorem dL_law_1588 : decode cL_law 1588 = .ok (.ireturn, 1) := by decide +kernel
theorem dL_law_1589 : decode cL_law 1589 = .ok (.iload 6, 2) := by decide +kernel
theorem dL_law_1591 : decode cL_law 1591 = .ok (.ifCond .ne 15, 3) := by decide +kernel
theorem dL_law_1594 : decode cL_law 1594 = .ok (.aload_n 3, 1) := by decide +kernel
theorem dL_law_1595 : decode cL_law 1595 = .ok (.iconst 0, 1) := by decide +kernel
theorem dL_law_1596 : decode cL_law 1596 = .ok (.laload, 1) := by decide +kernel
theorem dL_law_1597 : decode cL_law 1597 = .ok (.iload 7, 2) := by decide +kernel
theorem dL_law_1599 : decode cL_law 1599 = .ok (.i2l, 1) := by decide +kernel
theorem dL_law_1600 : decode cL_law 1600 = .ok (.lcmp, 1) := by decide +kernel
theorem dL_law_1601 : decode cL_law 1601 = .ok (.ifCond .eq 5, 3) := by decide +kernel
theorem dL_law_1604 : decode cL_law 1604 = .ok (.iconst 0, 1) := by decide +kernel
theorem dL_law_1605 : decode cL_law 1605 = .ok (.ireturn, 1) := by decide +kernel
theorem dL_law_1606 : decode cL_law 1606 = .ok (.goto 241, 3) := by decide +kernel
theorem dL_law_1609 : decode cL_law 1609 = .ok (.aload_n 1, 1) := by decide +kernel
theorem dL_law_1610 : decode cL_law 1610 = .ok (.aload_n 0, 1) := by decide +kernel
theorem dL_law_1611 : decode cL_law 1611 = .ok (.iload 5, 2) := by decide +kernel
theorem dL_law_1613 : decode cL_law 1613 = .ok (.iconst 1, 1) := by decide +kernel
theorem dL_law_1614 : decode cL_law 1614 = .ok (.iadd, 1) := by decide +kernel
theorem dL_law_1615 : decode cL_law 1615 = .ok (.iaload, 1) := by decide +kernel
theorem dL_law_1616 : decode cL_law 1616 = .ok (.aload_n 0, 1) := by decide +kernel
theorem dL_law_1617 : decode cL_law 1617 = .ok (.iload 5, 2) := by decide +kernel
theorem dL_law_1619 : decode cL_law 1619 = .ok (.iconst 2, 1) := by decide +kernel
theorem dL_law_1620 : decode cL_law 1620 = .ok (.iadd, 1) := by decide +kernel
theorem dL_law_1621 : decode cL_law 1621 = .ok (.iaload, 1) := by decide +kernel
theorem dL_law_1622 : decode cL_law 1622 = .ok (.aload_n 0, 1) := by decide +kernel
theorem dL_law_1623 : decode cL_law 1623 = .ok (.iload 5, 2) := by decide +kernel
theorem dL_law_1625 : decode cL_law 1625 = .ok (.iconst 3, 1) := by decide +kernel
theorem dL_law_1626 : decode cL_law 1626 = .ok (.iadd, 1) := by decide +kernel
theorem dL_law_1627 : decode cL_law 1627 = .ok (.iaload, 1) := by decide +kernel
theorem dL_law_1628 : decode cL_law 1628 = .ok (.aload_n 3, 1) := by decide +kernel
theorem dL_law_1629 : decode cL_law 1629 = .ok (.invokestatic 189, 3) := by decide +kernel
theorem dL_law_1632 : decode cL_law 1632 = .ok (.istore 6, 2) := by decide +kernel
theorem dL_law_1634 : decode cL_law 1634 = .ok (.aload_n 2, 1) := by decide +kernel
theorem dL_law_1635 : decode cL_law 1635 = .ok (.aload_n 0, 1) := by decide +kernel
theorem dL_law_1636 : decode cL_law 1636 = .ok (.iload 5, 2) := by decide +kernel
theorem dL_law_1638 : decode cL_law 1638 = .ok (.iconst 1, 1) := by decide +kernel
theorem dL_law_1639 : decode cL_law 1639 = .ok (.iadd, 1) := by decide +kernel
theorem dL_law_1640 : decode cL_law 1640 = .ok (.iaload, 1) := by decide +kernel
theorem dL_law_1641 : decode cL_law 1641 = .ok (.aload_n 0, 1) := by decide +kernel
theorem dL_law_1642 : decode cL_law 1642 = .ok (.iload 5, 2) := by decide +kernel
theorem dL_law_1644 : decode cL_law 1644 = .ok (.iconst 2, 1) := by decide +kernel
theorem dL_law_1645 : decode cL_law 1645 = .ok (.iadd, 1) := by decide +kernel
theorem dL_law_1646 : decode cL_law 1646 = .ok (.iaload, 1) := by decide +kernel
theorem dL_law_1647 : decode cL_law 1647 = .ok (.aload_n 0, 1) := by decide +kernel
theorem dL_law_1648 : decode cL_law 1648 = .ok (.iload 5, 2) := by decide +kernel
theorem dL_law_1650 : decode cL_law 1650 = .ok (.iconst 3, 1) := by decide +kernel
theorem dL_law_1651 : decode cL_law 1651 = .ok (.iadd, 1) := by decide +kernel
theorem dL_law_1652 : decode cL_law 1652 = .ok (.iaload, 1) := by decide +kernel
theorem dL_law_1653 : decode cL_law 1653 = .ok (.invokevirtual 191, 3) := by decide +kernel
theorem dL_law_1656 : decode cL_law 1656 = .ok (.istore 7, 2) := by decide +kernel
theorem dL_law_1658 : decode cL_law 1658 = .ok (.aload_n 2, 1) := by decide +kernel
theorem dL_law_1659 : decode cL_law 1659 = .ok (.invokevirtual 115, 3) := by decide +kernel
theorem dL_law_1662 : decode cL_law 1662 = .ok (.iload 6, 2) := by decide +kernel
theorem dL_law_1664 : decode cL_law 1664 = .ok (.if_icmp .eq 5, 3) := by decide +kernel
theorem dL_law_1667 : decode cL_law 1667 = .ok (.iconst 0, 1) := by decide +kernel
theorem dL_law_1668 : decode cL_law 1668 = .ok (.ireturn, 1) := by decide +kernel
theorem dL_law_1669 : decode cL_law 1669 = .ok (.iload 6, 2) := by decide +kernel
theorem dL_law_1671 : decode cL_law 1671 = .ok (.ifCond .ne 15, 3) := by decide +kernel
theorem dL_law_1674 : decode cL_law 1674 = .ok (.aload_n 3, 1) := by decide +kernel
theorem dL_law_1675 : decode cL_law 1675 = .ok (.iconst 0, 1) := by decide +kernel
theorem dL_law_1676 : decode cL_law 1676 = .ok (.laload, 1) := by decide +kernel
theorem dL_law_1677 : decode cL_law 1677 = .ok (.iload 7, 2) := by decide +kernel
theorem dL_law_1679 : decode cL_law 1679 = .ok (.i2l, 1) := by decide +kernel
theorem dL_law_1680 : decode cL_law 1680 = .ok (.lcmp, 1) := by decide +kernel
theorem dL_law_1681 : decode cL_law 1681 = .ok (.ifCond .eq 5, 3) := by decide +kernel
theorem dL_law_1684 : decode cL_law 1684 = .ok (.iconst 0, 1) := by decide +kernel
theorem dL_law_1685 : decode cL_law 1685 = .ok (.ireturn, 1) := by decide +kernel
theorem dL_law_1686 : decode cL_law 1686 = .ok (.goto 161, 3) := by decide +kernel
theorem dL_law_1689 : decode cL_law 1689 = .ok (.aload_n 1, 1) := by decide +kernel
theorem dL_law_1690 : decode cL_law 1690 = .ok (.invokevirtual 192, 3) := by decide +kernel
theorem dL_law_1693 : decode cL_law 1693 = .ok (.aload_n 2, 1) := by decide +kernel
theorem dL_law_1694 : decode cL_law 1694 = .ok (.invokevirtual 196, 3) := by decide +kernel
theorem dL_law_1697 : decode cL_law 1697 = .ok (.lcmp, 1) := by decide +kernel
theorem dL_law_1698 : decode cL_law 1698 = .ok (.ifCond .eq 149, 3) := by decide +kernel
theorem dL_law_1701 : decode cL_law 1701 = .ok (.iconst 0, 1) := by decide +kernel
theorem dL_law_1702 : decode cL_law 1702 = .ok (.ireturn, 1) := by decide +kernel
theorem dL_law_1703 : decode cL_law 1703 = .ok (.aload_n 1, 1) := by decide +kernel
theorem dL_law_1704 : decode cL_law 1704 = .ok (.aload 4, 2) := by decide +kernel
theorem dL_law_1706 : decode cL_law 1706 = .ok (.invokestatic 197, 3) := by decide +kernel
theorem dL_law_1709 : decode cL_law 1709 = .ok (.istore 6, 2) := by decide +kernel
theorem dL_law_1711 : decode cL_law 1711 = .ok (.aload_n 2, 1) := by decide +kernel
theorem dL_law_1712 : decode cL_law 1712 = .ok (.invokevirtual 200, 3) := by decide +kernel
theorem dL_law_1715 : decode cL_law 1715 = .ok (.fstore 7, 2) := by decide +kernel
theorem dL_law_1717 : decode cL_law 1717 = .ok (.aload_n 2, 1) := by decide +kernel
theorem dL_law_1718 : decode cL_law 1718 = .ok (.invokevirtual 115, 3) := by decide +kernel
theorem dL_law_1721 : decode cL_law 1721 = .ok (.iload 6, 2) := by decide +kernel
theorem dL_law_1723 : decode cL_law 1723 = .ok (.if_icmp .eq 5, 3) := by decide +kernel
theorem dL_law_1726 : decode cL_law 1726 = .ok (.iconst 0, 1) := by decide +kernel
theorem dL_law_1727 : decode cL_law 1727 = .ok (.ireturn, 1) := by decide +kernel
theorem dL_law_1728 : decode cL_law 1728 = .ok (.iload 6, 2) := by decide +kernel
theorem dL_law_1730 : decode cL_law 1730 = .ok (.ifCond .ne 36, 3) := by decide +kernel
theorem dL_law_1733 : decode cL_law 1733 = .ok (.aload 4, 2) := by decide +kernel
theorem dL_law_1735 : decode cL_law 1735 = .ok (.iconst 0, 1) := by decide +kernel
theorem dL_law_1736 : decode cL_law 1736 = .ok (.daload, 1) := by decide +kernel
theorem dL_law_1737 : decode cL_law 1737 = .ok (.fload 7, 2) := by decide +kernel
theorem dL_law_1739 : decode cL_law 1739 = .ok (.f2d, 1) := by decide +kernel
theorem dL_law_1740 : decode cL_law 1740 = .ok (.dcmp .l, 1) := by decide +kernel
theorem dL_law_1741 : decode cL_law 1741 = .ok (.ifCond .eq 25, 3) := by decide +kernel
theorem dL_law_1744 : decode cL_law 1744 = .ok (.aload 4, 2) := by decide +kernel
theorem dL_law_1746 : decode cL_law 1746 = .ok (.iconst 0, 1) := by decide +kernel
theorem dL_law_1747 : decode cL_law 1747 = .ok (.daload, 1) := by decide +kernel
theorem dL_law_1748 : decode cL_law 1748 = .ok (.aload 4, 2) := by decide +kernel
theorem dL_law_1750 : decode cL_law 1750 = .ok (.iconst 0, 1) := by decide +kernel
theorem dL_law_1751 : decode cL_law 1751 = .ok (.daload, 1) := by decide +kernel
theorem dL_law_1752 : decode cL_law 1752 = .ok (.dcmp .l, 1) := by decide +kernel
theorem dL_law_1753 : decode cL_law 1753 = .ok (.ifCond .eq 11, 3) := by decide +kernel
theorem dL_law_1756 : decode cL_law 1756 = .ok (.fload 7, 2) := by decide +kernel
theorem dL_law_1758 : decode cL_law 1758 = .ok (.fload 7, 2) := by decide +kernel
theorem dL_law_1760 : decode cL_law 1760 = .ok (.fcmp .l, 1) := by decide +kernel
theorem dL_law_1761 : decode cL_law 1761 = .ok (.ifCond .ne 5, 3) := by decide +kernel
theorem dL_law_1764 : decode cL_law 1764 = .ok (.iconst 0, 1) := by decide +kernel
theorem dL_law_1765 : decode cL_law 1765 = .ok (.ireturn, 1) := by decide +kernel
theorem dL_law_1766 : decode cL_law 1766 = .ok (.goto 81, 3) := by decide +kernel
theorem dL_law_1769 : decode cL_law 1769 = .ok (.aload_n 1, 1) := by decide +kernel
theorem dL_law_1770 : decode cL_law 1770 = .ok (.aload 4, 2) := by decide +kernel
theorem dL_law_1772 : decode cL_law 1772 = .ok (.invokestatic 201, 3) := by decide +kernel
theorem dL_law_1775 : decode cL_law 1775 = .ok (.istore 6, 2) := by decide +kernel
theorem dL_law_1777 : decode cL_law 1777 = .ok (.aload_n 2, 1) := by decide +kernel
theorem dL_law_1778 : decode cL_law 1778 = .ok (.invokevirtual 203, 3) := by decide +kernel
theorem dL_law_1781 : decode cL_law 1781 = .ok (.dstore 7, 2) := by decide +kernel
theorem dL_law_1783 : decode cL_law 1783 = .ok (.aload_n 2, 1) := by decide +kernel
theorem dL_law_1784 : decode cL_law 1784 = .ok (.invokevirtual 115, 3) := by decide +kernel
theorem dL_law_1787 : decode cL_law 1787 = .ok (.iload 6, 2) := by decide +kernel
theorem dL_law_1789 : decode cL_law 1789 = .ok (.if_icmp .eq 5, 3) := by decide +kernel
theorem dL_law_1792 : decode cL_law 1792 = .ok (.iconst 0, 1) := by decide +kernel
theorem dL_law_1793 : decode cL_law 1793 = .ok (.ireturn, 1) := by decide +kernel
theorem dL_law_1794 : decode cL_law 1794 = .ok (.iload 6, 2) := by decide +kernel
theorem dL_law_1796 : decode cL_law 1796 = .ok (.ifCond .ne 35, 3) := by decide +kernel
theorem dL_law_1799 : decode cL_law 1799 = .ok (.aload 4, 2) := by decide +kernel
theorem dL_law_1801 : decode cL_law 1801 = .ok (.iconst 0, 1) := by decide +kernel
theorem dL_law_1802 : decode cL_law 1802 = .ok (.daload, 1) := by decide +kernel
theorem dL_law_1803 : decode cL_law 1803 = .ok (.dload 7, 2) := by decide +kernel
theorem dL_law_1805 : decode cL_law 1805 = .ok (.dcmp .l, 1) := by decide +kernel
theorem dL_law_1806 : decode cL_law 1806 = .ok (.ifCond .eq 25, 3) := by decide +kernel
theorem dL_law_1809 : decode cL_law 1809 = .ok (.aload 4, 2) := by decide +kernel
theorem dL_law_1811 : decode cL_law 1811 = .ok (.iconst 0, 1) := by decide +kernel
theorem dL_law_1812 : decode cL_law 1812 = .ok (.daload, 1) := by decide +kernel
theorem dL_law_1813 : decode cL_law 1813 = .ok (.aload 4, 2) := by decide +kernel
theorem dL_law_1815 : decode cL_law 1815 = .ok (.iconst 0, 1) := by decide +kernel
theorem dL_law_1816 : decode cL_law 1816 = .ok (.daload, 1) := by decide +kernel
theorem dL_law_1817 : decode cL_law 1817 = .ok (.dcmp .l, 1) := by decide +kernel
theorem dL_law_1818 : decode cL_law 1818 = .ok (.ifCond .eq 11, 3) := by decide +kernel
theorem dL_law_1821 : decode cL_law 1821 = .ok (.dload 7, 2) := by decide +kernel
theorem dL_law_1823 : decode cL_law 1823 = .ok (.dload 7, 2) := by decide +kernel
theorem dL_law_1825 : decode cL_law 1825 = .ok (.dcmp .l, 1) := by decide +kernel
theorem dL_law_1826 : decode cL_law 1826 = .ok (.ifCond .ne 5, 3) := by decide +kernel
theorem dL_law_1829 : decode cL_law 1829 = .ok (.iconst 0, 1) := by decide +kernel
theorem dL_law_1830 : decode cL_law 1830 = .ok (.ireturn, 1) := by decide +kernel
theorem dL_law_1831 : decode cL_law 1831 = .ok (.goto 16, 3) := by decide +kernel
theorem dL_law_1834 : decode cL_law 1834 = .ok (.aload_n 1, 1) := by decide +kernel
theorem dL_law_1835 : decode cL_law 1835 = .ok (.invokevirtual 204, 3) := by decide +kernel
theorem dL_law_1838 : decode cL_law 1838 = .ok (.aload_n 2, 1) := by decide +kernel
theorem dL_law_1839 : decode cL_law 1839 = .ok (.invokevirtual 208, 3) := by decide +kernel
theorem dL_law_1842 : decode cL_law 1842 = .ok (.if_icmp .eq 5, 3) := by decide +kernel
theorem dL_law_1845 : decode cL_law 1845 = .ok (.iconst 0, 1) := by decide +kernel
theorem dL_law_1846 : decode cL_law 1846 = .ok (.ireturn, 1) := by decide +kernel
theorem dL_law_1847 : decode cL_law 1847 = .ok (.iinc 5 5, 3) := by decide +kernel
theorem dL_law_1850 : decode cL_law 1850 = .ok (.goto (-1822), 3) := by decide +kernel
theorem dL_law_1853 : decode cL_law 1853 = .ok (.iconst 1, 1) := by decide +kernel
theorem dL_law_1854 : decode cL_law 1854 = .ok (.ireturn, 1) := by decide +kernel
end
section
/-! THE LAYER: worlds by keys, ints as integers, one judgement kG without heap. Mine. -/
def iI (z : Int) : Int32 := Int32.ofInt z
def lI (z : Int) : Int64 := Int64.ofInt z
theorem iI_to {z : Int} (h : -2147483648 ≤ z ∧ z < 2147483648) : (iI z).toInt = z := Int32.toInt_ofInt_of_le (by omega) (by omega)
theorem lI_to {z : Int} (h : -9223372036854775808 ≤ z ∧ z < 9223372036854775808) : (lI z).toInt = z := Int64.toInt_ofInt_of_le (by omega) (by omega)
theorem iI_eq {a b : Int} (ha : -2147483648 ≤ a ∧ a < 2147483648) (hb : -2147483648 ≤ b ∧ b < 2147483648) : iI a = iI b ↔ a = b := ⟨fun h => by have := congrArg Int32.toInt h; rwa [iI_to ha, iI_to hb] at this, fun h => by rw [h]⟩
theorem iI_lt {a b : Int} (ha : -2147483648 ≤ a ∧ a < 2147483648) (hb : -2147483648 ≤ b ∧ b < 2147483648) : iI a < iI b ↔ a < b := by rw [Int32.lt_iff_toInt_lt, iI_to ha, iI_to hb]
theorem iI_le {a b : Int} (ha : -2147483648 ≤ a ∧ a < 2147483648) (hb : -2147483648 ≤ b ∧ b < 2147483648) : iI a ≤ iI b ↔ a ≤ b := by rw [Int32.le_iff_toInt_le, iI_to ha, iI_to hb]
theorem iI_0 : (0 : Int32) = iI 0 := by decide
theorem iI_of (x : Int32) : iI x.toInt = x := Int32.ofInt_toInt x
theorem iI_rg (x : Int32) : -2147483648 ≤ x.toInt ∧ x.toInt < 2147483648 := ⟨Int32.le_toInt x, Int32.toInt_lt x⟩
theorem iI_cl {z : Int} (h : 0 ≤ z ∧ z < 2147483648) : (iI z).toNatClampNeg = z.toNat := by
  show (iI z).toInt.toNat = z.toNat
  rw [iI_to (by omega)]
theorem iI_in {z : Int} {N : Nat} (h : 0 ≤ z ∧ z < N) (hN : N < 2147483648) : vp_in (iI z) N := by
  rw [vp_in_iff, iI_to (by omega)]
  exact h
theorem iI_nat (n : Nat) : iI (n : Int) = Int32.ofNat n := Int32.ofInt_eq_ofNat
/-- what a cell holds, with the kind of its array -/
abbrev kC : Type := (Nat × vp_A) ⊕ (Nat × List Value)
abbrev kW : Type := Nat → Option (Nat × kC)
/-- the classes, the array classes by their kinds, the first address of ours -/
abbrev kE : Type := va_G × (Nat → ClassId) × Nat
def kcv (cA : Nat → ClassId) : kC → va_E
  | .inl a => .inl (cA a.1, a.2)
  | .inr o => .inr o
def kTy : List FieldType := [.int, .boolean, .char, .long, .double, .object "Parserpark$Rule", .object "Parserpark$Text"]
def kT (cA : Nat → ClassId) : List (ClassId × FieldType) := [(cA 0, .int), (cA 1, .boolean), (cA 2, .char), (cA 3, .long), (cA 4, .double), (cA 5, .object "Parserpark$Rule"), (cA 6, .object "Parserpark$Text")]
def kP (E : kE) (w : kW) (H : Heap) : Prop := (∀ (k a : Nat) (c : kC), w k = some (a, c) → va_at E.1 vwCl (a, kcv E.2.1 c) H ∧ E.2.2 ≤ a) ∧ ∀ (i j a : Nat) (c d : kC), w i = some (a, c) → w j = some (a, d) → i = j
def kA (E : kE) : Nat → Prop := fun q => E.2.2 ≤ q
def kset (w : kW) (k a : Nat) (c : kC) : kW := fun j => if j = k then some (a, c) else w j
theorem kset_eq {w : kW} {k a : Nat} {c : kC} : kset w k a c k = some (a, c) := if_pos rfl
theorem kset_ne {w : kW} {k a j : Nat} {c : kC} (h : j ≠ k) : kset w k a c j = w j := if_neg h
def kTN : String := "java/lang/Throwable"
def kEnv (E : kE) (U : State) : Prop := va_K E.1 vwCl (kT E.2.1) U ∧ (∀ w ∈ kBL, va_Nw w U) ∧ va_AO "Parserpark$Rule" U ∧ va_AO "Parserpark$Text" U ∧ vx_Zq Bundle.tN "UNASSIGNED_STACK" Bundle.steD (kA E) U U.heap ∧ vx_Zq Bundle.tN "SUPPRESSED_SENTINEL" Bundle.listD (kA E) U U.heap ∧ E.2.2 ≤ U.heap.size
theorem kNw_warm {s U : State} (hW : s.WarmedH U.vm) {w : Cond} (hw : w ∈ kBL) (h : va_Nw w s) : va_Nw w U := by
  have hs := (List.mem_filter.mp hw).2
  cases w <;> first | exact va_Nw.warmM hW h | exact va_Nw.warmD hW h | exact va_Nw.warmC hW h | cases hs
theorem kEnv.move {E : kE} {s U : State} {H : Heap} {locs : List Loc} (h : kEnv E s) (hW : s.WarmedH U.vm) (hS : va_S (kA E) s.heap H locs) (hU : U.heap = H) : kEnv E U := by
  obtain ⟨h1, h2, h3, h4, h5, h6, h7⟩ := h
  refine ⟨h1.moved hW.alike, fun w hw => kNw_warm hW hw (h2 w hw), h3.moved hW.alike, h4.moved hW.alike, ?_, ?_, ?_⟩
  · rw [hU]; exact (h5.moved hW.alike).kept hS.2.1
  · rw [hU]; exact (h6.moved hW.alike).kept hS.2.1
  · rw [hU]; exact Nat.le_trans h7 hS.1
theorem kEnv.calling {E : kE} {U : State} {g : JFrame} {mk : MethodId} {a : Array Value} (h : kEnv E U) : kEnv E (U.calling g mk a) := by
  obtain ⟨h1, h2, h3, h4, h5, h6, h7⟩ := h
  have hv : U.vm.Alike (U.calling g mk a).vm := Vm.Alike.refl U.vm
  refine ⟨h1.moved hv, fun w hw => ?_, h3.moved hv, h4.moved hv, h5.moved hv, h6.moved hv, h7⟩
  have hs := (List.mem_filter.mp hw).2
  have hx := h2 w hw
  exact va_Nw.same (by cases w <;> first | rfl | cases hs) (show U.vm = (U.calling g mk a).vm from rfl) hx
theorem kP.set {E : kE} {w : kW} {k a : Nat} {c0 c : kC} {H H1 : Heap} (h : kP E w H) (h0 : w k = some (a, c0)) (he : va_at E.1 vwCl (a, kcv E.2.1 c) H1) (oq : ∀ q : Nat, q ≠ a → H1[q]? = H[q]?) : kP E (kset w k a c) H1 := by
  refine ⟨fun j b d hj => ?_, fun i j b d d' hi hj => ?_⟩
  · by_cases hjk : j = k
    · subst hjk
      rw [kset_eq] at hj
      cases hj
      exact ⟨he, (h.1 _ _ _ h0).2⟩
    · rw [kset_ne hjk] at hj
      refine ⟨(h.1 j b d hj).1.kept (oq b fun e => hjk ?_), (h.1 j b d hj).2⟩
      subst e
      exact h.2 j k _ _ _ hj h0
  · by_cases hik : i = k
    · subst hik
      rw [kset_eq] at hi
      cases hi
      by_cases hjk : j = i
      · exact hjk.symm
      · rw [kset_ne hjk] at hj
        exact h.2 _ _ _ _ _ h0 hj
    · rw [kset_ne hik] at hi
      by_cases hjk : j = k
      · subst hjk
        rw [kset_eq] at hj
        cases hj
        exact h.2 _ _ _ _ _ hi h0
      · rw [kset_ne hjk] at hj
        exact h.2 _ _ _ _ _ hi hj
theorem kP.push {E : kE} {w : kW} {k a : Nat} {c : kC} {H H1 : Heap} (h : kP E w H) (ha : a = H.size) (hE : E.2.2 ≤ a) (he : va_at E.1 vwCl (a, kcv E.2.1 c) H1) (oq : ∀ q : Nat, q < H.size → H1[q]? = H[q]?) : kP E (kset w k a c) H1 := by
  have hlt : ∀ (j b : Nat) (d : kC), w j = some (b, d) → b < H.size := fun j b d hj => (h.1 j b d hj).1.lt
  refine ⟨fun j b d hj => ?_, fun i j b d d' hi hj => ?_⟩
  · by_cases hjk : j = k
    · subst hjk
      rw [kset_eq] at hj
      cases hj
      exact ⟨he, hE⟩
    · rw [kset_ne hjk] at hj
      exact ⟨(h.1 j b d hj).1.kept (oq b (hlt j b d hj)), (h.1 j b d hj).2⟩
  · by_cases hik : i = k
    · subst hik
      rw [kset_eq] at hi
      cases hi
      by_cases hjk : j = i
      · exact hjk.symm
      · rw [kset_ne hjk] at hj
        exact absurd (hlt _ _ _ hj) (by omega)
    · rw [kset_ne hik] at hi
      by_cases hjk : j = k
      · subst hjk
        rw [kset_eq] at hj
        cases hj
        exact absurd (hlt _ _ _ hi) (by omega)
      · rw [kset_ne hjk] at hj
        exact h.2 _ _ _ _ _ hi hj
theorem kP.kept {E : kE} {w : kW} {H H1 : Heap} (h : kP E w H) (oq : ∀ q : Nat, q < H.size → H1[q]? = H[q]?) : kP E w H1 := ⟨fun j b d hj => ⟨(h.1 j b d hj).1.kept (oq b (h.1 j b d hj).1.lt), (h.1 j b d hj).2⟩, h.2⟩
/-- one cell of the world, as a world of the kit's own -/
theorem kP.one {E : kE} {w : kW} {k a : Nat} {c : kC} {H : Heap} (h : kP E w H) (h0 : w k = some (a, c)) : va_P E.1 vwCl [(a, kcv E.2.1 c)] H := by
  intro j q hj
  have hz : j < 1 := (List.getElem?_eq_some_iff.mp hj).1
  have h1 : j = 0 := by omega
  subst h1
  cases hj
  exact (h.1 _ _ _ h0).1
/-- where a walk stands: program, launch, environment, room, start, method, arguments, frames below, method, code, aim -/
abbrev kX : Type := Program × Launch × Env × Room × State × MethodId × Array Value × List Frame × Method × Code × (State → Prop)
abbrev kXp (X : kX) := X.1
abbrev kXl (X : kX) := X.2.1
abbrev kXe (X : kX) := X.2.2.1
abbrev kXR (X : kX) := X.2.2.2.1
abbrev kXs (X : kX) := X.2.2.2.2.1
abbrev kXm (X : kX) := X.2.2.2.2.2.1
abbrev kXa (X : kX) := X.2.2.2.2.2.2.1
abbrev kXb (X : kX) := X.2.2.2.2.2.2.2.1
abbrev kXme (X : kX) := X.2.2.2.2.2.2.2.2.1
abbrev kXc (X : kX) := X.2.2.2.2.2.2.2.2.2.1
abbrev kXQ (X : kX) := X.2.2.2.2.2.2.2.2.2.2
abbrev kXW (X : kX) (H : Heap) (locs : List Loc) (k n : Nat) (g : JFrame) : Prop := W (kXp X) (kXl X) (kXe X) (kXR X) (kXs X) (kXm X) (kXa X) (kXb X) (kXme X) (kXc X) H locs k n (kXQ X) g
def kG (E : kE) (X : kX) (nL k n : Nat) (w : kW) (pc : Nat) (lv : List (Nat × Value)) (st : List Value) : Prop :=
  ∀ (H : Heap) (locs : List Loc) (ls : Array Slot), kP E w H → va_S (kA E) (kXs X).heap H locs → lv_has ls nL lv → kXW X H locs k n (F0 (kXm X) pc ls st)
def kOk (E : kE) (X : kX) (cc : ByteArray) (own : String) (nL : Nat) (rm : Room) : Prop :=
  (kXp X).tables.exec = Jvm.exec ∧ (kXc X).code = cc ∧ (kXc X).maxLocals = nL ∧ (kXs X).vm.findClass own = some (kXm X).cls ∧ (∀ w ∈ kAL, w.before (kXa X) (kXs X) = true) ∧ kEnv E (kXs X) ∧ (kXme X).locks = false ∧ (kXl X).stackTraces = false ∧ kXR X = rm
def kQ (E : kE) (post : Option Value → kW → Prop) : Array Value → State → Outcome → State → Prop := fun _ st oc t => (∃ (v : Option Value) (w' : kW), oc = .returned v ∧ post v w' ∧ kP E w' t.heap) ∧ va_F (kA E) st t
def kM (E : kE) (l : Launch) (y : MethodName) (ws : List Cond) (rm : Room) (mc ms : Nat) (av : List Value) (w : kW) (post : Option Value → kW → Prop) : Prop :=
  Met l y ws rm (va_Pc av (fun U => kEnv E U ∧ kP E w U.heap)) (kQ E post) mc ms (kA E)
def kRet (E : kE) (X : kX) (ret : Option FieldType) (post : Option Value → kW → Prop) (mc ms : Nat) : Prop :=
  (kXme X).sig.returnType = ret ∧ ∀ t, MQ (kXb X) (kQ E post) (kXa X) (kXs X) mc ms (kA E) t → kXQ X t
def pI (P : Int → kW → Prop) : Option Value → kW → Prop := fun v w => ∃ z : Int, v = some (.int (iI z)) ∧ P z w
def pV (P : kW → Prop) : Option Value → kW → Prop := fun v w => v = none ∧ P w
def pR (P : Nat → kW → Prop) : Option Value → kW → Prop := fun v w => ∃ a : Nat, v = some (.ref a) ∧ P a w
def pQ (P : Option Nat → kW → Prop) : Option Value → kW → Prop := fun v w => ∃ a : Option Nat, v = some (va_rf a) ∧ P a w
def pL (P : Int → kW → Prop) : Option Value → kW → Prop := fun v w => ∃ z : Int, v = some (.long (lI z)) ∧ P z w
def pF (P : UInt32 → kW → Prop) : Option Value → kW → Prop := fun v w => ∃ z : UInt32, v = some (.float z) ∧ P z w
def pD (P : UInt64 → kW → Prop) : Option Value → kW → Prop := fun v w => ∃ z : UInt64, v = some (.double z) ∧ P z w
theorem kM_of {E : kE} {l : Launch} {y : MethodName} {cc : ByteArray} {nL : Nat} {ret : Option FieldType} {rm : Room} {mc ms : Nat} {av : List Value} {w : kW} {post : Option Value → kW → Prop} (hst : l.stackTraces = false) (hy : plainName y.cls = true) (hn : (lg_sl av).length ≤ nL)
    (body : ∀ X : kX, kXl X = l → kOk E X cc y.cls nL rm → kRet E X ret post mc ms → (y.name = "<init>" → (kXme X).name = "<init>") → kG E X nL 0 0 w 0 (lv_args 0 av) []) : kM E l y (.code y cc nL ret :: kAL) rm mc ms av w post := by
  refine Met.ofW (cc := cc) (maxL := nL) (ret := ret) hy rfl ?_
  intro p e s m args below meth c s₁ B hml hv
  obtain ⟨rfl, hE, hP⟩ := hv
  have hts := atoms_spec (ws := .code y cc nL ret :: kAL) B.pre
  have hown := findClass_of_methodNamed B.named
  have K := body (p, l, e, rm, s, m, av.toArray, below, meth, c, MQ below (kQ E post) av.toArray s mc ms (kA E)) rfl ⟨B.exec, B.bytes, hml, hown, fun w h => hts w (List.mem_cons_of_mem _ h), hE, B.notSynchronized, hst, rfl⟩ ⟨B.returns, fun _ h => h⟩ (fun hyn => (name_of_methodNamed B.named B.method).1.trans hyn)
  rw [lg_entry_eq]
  exact K s.heap [] _ hP va_S.rf (lv_entry av hn)
end
section
/-! THE ROWS OF THE LAYER. Mine. -/
section KROWS
variable {E : kE} {X : kX} {cc : ByteArray} {own : String} {nL k n pc : Nat} {rm : Room} {w : kW} {lv : List (Nat × Value)} {st : List Value}
theorem k_iload (h : kOk E X cc own nL rm) {i : Nat} {x : Int32} (j : Nat) (hdg : decode cc pc = .ok (.iload i, 2)) (hl : lv[j]? = some (i, (.int x))) (kk : kG E X nL k n w (pc + 2) lv ((.int x) :: st)) : kG E X nL k n w pc lv st := fun H locs ls hP hS hls => lv_iload h.1 h.2.1 hdg (lv_at hls j hl) (kk H locs ls hP hS hls)
theorem k_iload_n (h : kOk E X cc own nL rm) {i : Nat} {q : Fin 4} {x : Int32} (j : Nat) (hdg : decode cc pc = .ok (.iload_n q, 1)) (hi : (q : Nat) = i) (hl : lv[j]? = some (i, (.int x))) (kk : kG E X nL k n w (pc + 1) lv ((.int x) :: st)) : kG E X nL k n w pc lv st := fun H locs ls hP hS hls => lv_iload_n h.1 h.2.1 hdg hi (lv_at hls j hl) (kk H locs ls hP hS hls)
theorem k_lload (h : kOk E X cc own nL rm) {i : Nat} {x : Int64} (j : Nat) (hdg : decode cc pc = .ok (.lload i, 2)) (hl : lv[j]? = some (i, (.long x))) (kk : kG E X nL k n w (pc + 2) lv ((.long x) :: st)) : kG E X nL k n w pc lv st := fun H locs ls hP hS hls => lv_lload h.1 h.2.1 hdg (lv_at hls j hl) (kk H locs ls hP hS hls)
theorem k_lload_n (h : kOk E X cc own nL rm) {i : Nat} {q : Fin 4} {x : Int64} (j : Nat) (hdg : decode cc pc = .ok (.lload_n q, 1)) (hi : (q : Nat) = i) (hl : lv[j]? = some (i, (.long x))) (kk : kG E X nL k n w (pc + 1) lv ((.long x) :: st)) : kG E X nL k n w pc lv st := fun H locs ls hP hS hls => lv_lload_n h.1 h.2.1 hdg hi (lv_at hls j hl) (kk H locs ls hP hS hls)
theorem k_fload (h : kOk E X cc own nL rm) {i : Nat} {x : UInt32} (j : Nat) (hdg : decode cc pc = .ok (.fload i, 2)) (hl : lv[j]? = some (i, (.float x))) (kk : kG E X nL k n w (pc + 2) lv ((.float x) :: st)) : kG E X nL k n w pc lv st := fun H locs ls hP hS hls => lv_fload h.1 h.2.1 hdg (lv_at hls j hl) (kk H locs ls hP hS hls)
theorem k_fload_n (h : kOk E X cc own nL rm) {i : Nat} {q : Fin 4} {x : UInt32} (j : Nat) (hdg : decode cc pc = .ok (.fload_n q, 1)) (hi : (q : Nat) = i) (hl : lv[j]? = some (i, (.float x))) (kk : kG E X nL k n w (pc + 1) lv ((.float x) :: st)) : kG E X nL k n w pc lv st := fun H locs ls hP hS hls => lv_fload_n h.1 h.2.1 hdg hi (lv_at hls j hl) (kk H locs ls hP hS hls)
theorem k_dload (h : kOk E X cc own nL rm) {i : Nat} {x : UInt64} (j : Nat) (hdg : decode cc pc = .ok (.dload i, 2)) (hl : lv[j]? = some (i, (.double x))) (kk : kG E X nL k n w (pc + 2) lv ((.double x) :: st)) : kG E X nL k n w pc lv st := fun H locs ls hP hS hls => lv_dload h.1 h.2.1 hdg (lv_at hls j hl) (kk H locs ls hP hS hls)
theorem k_dload_n (h : kOk E X cc own nL rm) {i : Nat} {q : Fin 4} {x : UInt64} (j : Nat) (hdg : decode cc pc = .ok (.dload_n q, 1)) (hi : (q : Nat) = i) (hl : lv[j]? = some (i, (.double x))) (kk : kG E X nL k n w (pc + 1) lv ((.double x) :: st)) : kG E X nL k n w pc lv st := fun H locs ls hP hS hls => lv_dload_n h.1 h.2.1 hdg hi (lv_at hls j hl) (kk H locs ls hP hS hls)
theorem k_aload (h : kOk E X cc own nL rm) {i : Nat} {x : Nat} (j : Nat) (hdg : decode cc pc = .ok (.aload i, 2)) (hl : lv[j]? = some (i, (.ref x))) (kk : kG E X nL k n w (pc + 2) lv ((.ref x) :: st)) : kG E X nL k n w pc lv st := fun H locs ls hP hS hls => lv_aload h.1 h.2.1 hdg (lv_at hls j hl) (kk H locs ls hP hS hls)
theorem k_aload_n (h : kOk E X cc own nL rm) {i : Nat} {q : Fin 4} {x : Nat} (j : Nat) (hdg : decode cc pc = .ok (.aload_n q, 1)) (hi : (q : Nat) = i) (hl : lv[j]? = some (i, (.ref x))) (kk : kG E X nL k n w (pc + 1) lv ((.ref x) :: st)) : kG E X nL k n w pc lv st := fun H locs ls hP hS hls => lv_aload_n h.1 h.2.1 hdg hi (lv_at hls j hl) (kk H locs ls hP hS hls)
theorem k_aloadN (h : kOk E X cc own nL rm) {i : Nat} (j : Nat) (hdg : decode cc pc = .ok (.aload i, 2)) (hl : lv[j]? = some (i, .null)) (kk : kG E X nL k n w (pc + 2) lv (.null :: st)) : kG E X nL k n w pc lv st := fun H locs ls hP hS hls => lv_aloadN h.1 h.2.1 hdg (lv_at hls j hl) (kk H locs ls hP hS hls)
theorem k_aload_nN (h : kOk E X cc own nL rm) {i : Nat} {q : Fin 4} (j : Nat) (hdg : decode cc pc = .ok (.aload_n q, 1)) (hi : (q : Nat) = i) (hl : lv[j]? = some (i, .null)) (kk : kG E X nL k n w (pc + 1) lv (.null :: st)) : kG E X nL k n w pc lv st := fun H locs ls hP hS hls => lv_aload_nN h.1 h.2.1 hdg hi (lv_at hls j hl) (kk H locs ls hP hS hls)
theorem k_istore (h : kOk E X cc own nL rm) {i : Nat} {x : Int32} {lv' : List (Nat × Value)} (hdg : decode cc pc = .ok (.istore i, 2)) (hn : i < nL) (hl : (i, (Value.int x)) :: lv.filter (fun q => !(q.1 == i) && !(q.1 + 1 == i && q.2.category == 2)) = lv') (kk : kG E X nL k n w (pc + 2) lv' st) : kG E X nL k n w pc lv ((.int x) :: st) := fun H locs ls hP hS hls => lv_istore h.1 h.2.1 hdg hls hn hl (fun ls1 hl1 => kk H locs ls1 hP hS hl1)
theorem k_istore_n (h : kOk E X cc own nL rm) {i : Nat} {q : Fin 4} {x : Int32} {lv' : List (Nat × Value)} (hdg : decode cc pc = .ok (.istore_n q, 1)) (hi : (q : Nat) = i) (hn : i < nL) (hl : (i, (Value.int x)) :: lv.filter (fun q => !(q.1 == i) && !(q.1 + 1 == i && q.2.category == 2)) = lv') (kk : kG E X nL k n w (pc + 1) lv' st) : kG E X nL k n w pc lv ((.int x) :: st) := fun H locs ls hP hS hls => lv_istore_n h.1 h.2.1 hdg hi hls hn hl (fun ls1 hl1 => kk H locs ls1 hP hS hl1)
theorem k_fstore (h : kOk E X cc own nL rm) {i : Nat} {x : UInt32} {lv' : List (Nat × Value)} (hdg : decode cc pc = .ok (.fstore i, 2)) (hn : i < nL) (hl : (i, (Value.float x)) :: lv.filter (fun q => !(q.1 == i) && !(q.1 + 1 == i && q.2.category == 2)) = lv') (kk : kG E X nL k n w (pc + 2) lv' st) : kG E X nL k n w pc lv ((.float x) :: st) := fun H locs ls hP hS hls => lv_fstore h.1 h.2.1 hdg hls hn hl (fun ls1 hl1 => kk H locs ls1 hP hS hl1)
theorem k_fstore_n (h : kOk E X cc own nL rm) {i : Nat} {q : Fin 4} {x : UInt32} {lv' : List (Nat × Value)} (hdg : decode cc pc = .ok (.fstore_n q, 1)) (hi : (q : Nat) = i) (hn : i < nL) (hl : (i, (Value.float x)) :: lv.filter (fun q => !(q.1 == i) && !(q.1 + 1 == i && q.2.category == 2)) = lv') (kk : kG E X nL k n w (pc + 1) lv' st) : kG E X nL k n w pc lv ((.float x) :: st) := fun H locs ls hP hS hls => lv_fstore_n h.1 h.2.1 hdg hi hls hn hl (fun ls1 hl1 => kk H locs ls1 hP hS hl1)
theorem k_astore (h : kOk E X cc own nL rm) {i : Nat} {x : Nat} {lv' : List (Nat × Value)} (hdg : decode cc pc = .ok (.astore i, 2)) (hn : i < nL) (hl : (i, (Value.ref x)) :: lv.filter (fun q => !(q.1 == i) && !(q.1 + 1 == i && q.2.category == 2)) = lv') (kk : kG E X nL k n w (pc + 2) lv' st) : kG E X nL k n w pc lv ((.ref x) :: st) := fun H locs ls hP hS hls => lv_astore h.1 h.2.1 hdg hls hn hl (fun ls1 hl1 => kk H locs ls1 hP hS hl1)
theorem k_astore_n (h : kOk E X cc own nL rm) {i : Nat} {q : Fin 4} {x : Nat} {lv' : List (Nat × Value)} (hdg : decode cc pc = .ok (.astore_n q, 1)) (hi : (q : Nat) = i) (hn : i < nL) (hl : (i, (Value.ref x)) :: lv.filter (fun q => !(q.1 == i) && !(q.1 + 1 == i && q.2.category == 2)) = lv') (kk : kG E X nL k n w (pc + 1) lv' st) : kG E X nL k n w pc lv ((.ref x) :: st) := fun H locs ls hP hS hls => lv_astore_n h.1 h.2.1 hdg hi hls hn hl (fun ls1 hl1 => kk H locs ls1 hP hS hl1)
theorem k_lstore (h : kOk E X cc own nL rm) {i : Nat} {x : Int64} {lv' : List (Nat × Value)} (hdg : decode cc pc = .ok (.lstore i, 2)) (hn : i + 1 < nL) (hl : (i, (Value.long x)) :: lv.filter (fun q => !(q.1 == i) && (!(q.1 == i + 1) && !(q.1 + 1 == i && q.2.category == 2))) = lv') (kk : kG E X nL k n w (pc + 2) lv' st) : kG E X nL k n w pc lv ((.long x) :: st) := fun H locs ls hP hS hls => lv_lstore h.1 h.2.1 hdg hls hn hl (fun ls1 hl1 => kk H locs ls1 hP hS hl1)
theorem k_lstore_n (h : kOk E X cc own nL rm) {i : Nat} {q : Fin 4} {x : Int64} {lv' : List (Nat × Value)} (hdg : decode cc pc = .ok (.lstore_n q, 1)) (hi : (q : Nat) = i) (hn : i + 1 < nL) (hl : (i, (Value.long x)) :: lv.filter (fun q => !(q.1 == i) && (!(q.1 == i + 1) && !(q.1 + 1 == i && q.2.category == 2))) = lv') (kk : kG E X nL k n w (pc + 1) lv' st) : kG E X nL k n w pc lv ((.long x) :: st) := fun H locs ls hP hS hls => lv_lstore_n h.1 h.2.1 hdg hi hls hn hl (fun ls1 hl1 => kk H locs ls1 hP hS hl1)
theorem k_dstore (h : kOk E X cc own nL rm) {i : Nat} {x : UInt64} {lv' : List (Nat × Value)} (hdg : decode cc pc = .ok (.dstore i, 2)) (hn : i + 1 < nL) (hl : (i, (Value.double x)) :: lv.filter (fun q => !(q.1 == i) && (!(q.1 == i + 1) && !(q.1 + 1 == i && q.2.category == 2))) = lv') (kk : kG E X nL k n w (pc + 2) lv' st) : kG E X nL k n w pc lv ((.double x) :: st) := fun H locs ls hP hS hls => lv_dstore h.1 h.2.1 hdg hls hn hl (fun ls1 hl1 => kk H locs ls1 hP hS hl1)
theorem k_dstore_n (h : kOk E X cc own nL rm) {i : Nat} {q : Fin 4} {x : UInt64} {lv' : List (Nat × Value)} (hdg : decode cc pc = .ok (.dstore_n q, 1)) (hi : (q : Nat) = i) (hn : i + 1 < nL) (hl : (i, (Value.double x)) :: lv.filter (fun q => !(q.1 == i) && (!(q.1 == i + 1) && !(q.1 + 1 == i && q.2.category == 2))) = lv') (kk : kG E X nL k n w (pc + 1) lv' st) : kG E X nL k n w pc lv ((.double x) :: st) := fun H locs ls hP hS hls => lv_dstore_n h.1 h.2.1 hdg hi hls hn hl (fun ls1 hl1 => kk H locs ls1 hP hS hl1)
theorem k_astoreN (h : kOk E X cc own nL rm) {i : Nat} {lv' : List (Nat × Value)} (hdg : decode cc pc = .ok (.astore i, 2)) (hn : i < nL) (hl : (i, Value.null) :: lv.filter (fun q => !(q.1 == i) && !(q.1 + 1 == i && q.2.category == 2)) = lv') (kk : kG E X nL k n w (pc + 2) lv' st) : kG E X nL k n w pc lv (.null :: st) := fun H locs ls hP hS hls => lv_astoreN h.1 h.2.1 hdg hls hn hl (fun ls1 hl1 => kk H locs ls1 hP hS hl1)
theorem k_astore_nN (h : kOk E X cc own nL rm) {i : Nat} {q : Fin 4} {lv' : List (Nat × Value)} (hdg : decode cc pc = .ok (.astore_n q, 1)) (hi : (q : Nat) = i) (hn : i < nL) (hl : (i, Value.null) :: lv.filter (fun q => !(q.1 == i) && !(q.1 + 1 == i && q.2.category == 2)) = lv') (kk : kG E X nL k n w (pc + 1) lv' st) : kG E X nL k n w pc lv (.null :: st) := fun H locs ls hP hS hls => lv_astore_nN h.1 h.2.1 hdg hi hls hn hl (fun ls1 hl1 => kk H locs ls1 hP hS hl1)
theorem k_iinc (h : kOk E X cc own nL rm) {i : Nat} {m z : Int} {lv' : List (Nat × Value)} (j : Nat) (hdg : decode cc pc = .ok (.iinc i m, 3)) (hj : lv[j]? = some (i, .int (iI z))) (hn : i < nL) (hl : (i, Value.int (iI (z + m))) :: lv.filter (fun q => !(q.1 == i) && !(q.1 + 1 == i && q.2.category == 2)) = lv') (kk : kG E X nL k n w (pc + 3) lv' st) : kG E X nL k n w pc lv st := fun H locs ls hP hS hls => lv_iinc h.1 h.2.1 hdg hls hj (Int32.ofInt_add z m).symm hn hl (fun ls1 hl1 => kk H locs ls1 hP hS hl1)
theorem k_sub {lv' : List (Nat × Value)} (ks : List Nat) (hl : lv_pick lv ks = lv') (kk : kG E X nL k n w pc lv' st) : kG E X nL k n w pc lv st := fun H locs ls hP hS hls => kk H locs ls hP hS (lv_sub hls ks hl)
theorem k_widen {k' n' : Nat} (h1 : k ≤ k') (h2 : n ≤ n') (kk : kG E X nL k' n' w pc lv st) : kG E X nL k n w pc lv st := fun H locs ls hP hS hls => W.widen h1 h2 (kk H locs ls hP hS hls)
theorem k_world {w' : kW} (hw : w = w') (kk : kG E X nL k n w' pc lv st) : kG E X nL k n w pc lv st := hw ▸ kk
theorem k_iconst (h : kOk E X cc own nL rm) {m : Int} (hdg : decode cc pc = .ok (.iconst m, 1)) (kk : kG E X nL k n w (pc + 1) lv (.int (iI m) :: st)) : kG E X nL k n w pc lv st := fun H locs ls hP hS hls => lv_iconst h.1 h.2.1 hdg rfl (kk H locs ls hP hS hls)
theorem k_bipush (h : kOk E X cc own nL rm) {m : Int} (hdg : decode cc pc = .ok (.bipush m, 2)) (hm : (Int8.ofInt m).toInt32 = iI m) (kk : kG E X nL k n w (pc + 2) lv (.int (iI m) :: st)) : kG E X nL k n w pc lv st := fun H locs ls hP hS hls => lv_bipush h.1 h.2.1 hdg hm (kk H locs ls hP hS hls)
theorem k_sipush (h : kOk E X cc own nL rm) {m : Int} (hdg : decode cc pc = .ok (.sipush m, 3)) (hm : (Int16.ofInt m).toInt32 = iI m) (kk : kG E X nL k n w (pc + 3) lv (.int (iI m) :: st)) : kG E X nL k n w pc lv st := fun H locs ls hP hS hls => lv_sipush h.1 h.2.1 hdg hm (kk H locs ls hP hS hls)
theorem k_lconst (h : kOk E X cc own nL rm) {m : Fin 2} {z : Int} (hdg : decode cc pc = .ok (.lconst m, 1)) (hm : Int64.ofNat (m : Nat) = lI z) (kk : kG E X nL k n w (pc + 1) lv (.long (lI z) :: st)) : kG E X nL k n w pc lv st := fun H locs ls hP hS hls => lv_lconst h.1 h.2.1 hdg hm (kk H locs ls hP hS hls)
theorem k_ldc2l (h : kOk E X cc own nL rm) {index : Nat} {v : Int64} {z : Int} (hq : Cond.constantLong own index v ∈ kAL) (hdg : decode cc pc = .ok (.ldc2_w index, 3)) (hm : v = lI z) (kk : kG E X nL k n w (pc + 3) lv (.long (lI z) :: st)) : kG E X nL k n w pc lv st := fun H locs ls hP hS hls => lv_ldc2 h.1 h.2.1 h.2.2.2.1 (h.2.2.2.2.1 _ hq) hdg (hm ▸ kk H locs ls hP hS hls)
theorem k_null (h : kOk E X cc own nL rm) (hdg : decode cc pc = .ok (.aconst_null, 1)) (kk : kG E X nL k n w (pc + 1) lv (.null :: st)) : kG E X nL k n w pc lv st := fun H locs ls hP hS hls => lv_null h.1 h.2.1 hdg (kk H locs ls hP hS hls)
theorem k_fconst0 (h : kOk E X cc own nL rm) (hdg : decode cc pc = .ok (.fconst 0, 1)) (kk : kG E X nL k n w (pc + 1) lv (.float 0 :: st)) : kG E X nL k n w pc lv st := fun H locs ls hP hS hls => lv_fconst0 h.1 h.2.1 hdg (kk H locs ls hP hS hls)
theorem k_dconst0 (h : kOk E X cc own nL rm) (hdg : decode cc pc = .ok (.dconst 0, 1)) (kk : kG E X nL k n w (pc + 1) lv (.double 0 :: st)) : kG E X nL k n w pc lv st := fun H locs ls hP hS hls => lv_dconst0 h.1 h.2.1 hdg (kk H locs ls hP hS hls)
theorem k_iadd (h : kOk E X cc own nL rm) {a b : Int} (hdg : decode cc pc = .ok (.iadd, 1)) (kk : kG E X nL k n w (pc + 1) lv (.int (iI (a + b)) :: st)) : kG E X nL k n w pc lv (.int (iI b) :: .int (iI a) :: st) := fun H locs ls hP hS hls => lv_iadd h.1 h.2.1 hdg (by have := kk H locs ls hP hS hls; rw [show iI (a + b) = iI a + iI b from Int32.ofInt_add a b] at this; exact this)
theorem k_isub (h : kOk E X cc own nL rm) {a b : Int} (hdg : decode cc pc = .ok (.isub, 1)) (kk : kG E X nL k n w (pc + 1) lv (.int (iI (a - b)) :: st)) : kG E X nL k n w pc lv (.int (iI b) :: .int (iI a) :: st) := fun H locs ls hP hS hls => lv_isub h.1 h.2.1 hdg (by have := kk H locs ls hP hS hls; rw [show iI (a - b) = iI a - iI b from Int32.ofInt_sub a b] at this; exact this)
theorem k_imul (h : kOk E X cc own nL rm) {a b : Int} (hdg : decode cc pc = .ok (.imul, 1)) (kk : kG E X nL k n w (pc + 1) lv (.int (iI (a * b)) :: st)) : kG E X nL k n w pc lv (.int (iI b) :: .int (iI a) :: st) := fun H locs ls hP hS hls => lv_imul h.1 h.2.1 hdg (by have := kk H locs ls hP hS hls; rw [show iI (a * b) = iI a * iI b from Int32.ofInt_mul a b] at this; exact this)
theorem k_ladd (h : kOk E X cc own nL rm) {a b : Int} (hdg : decode cc pc = .ok (.ladd, 1)) (kk : kG E X nL k n w (pc + 1) lv (.long (lI (a + b)) :: st)) : kG E X nL k n w pc lv (.long (lI b) :: .long (lI a) :: st) := fun H locs ls hP hS hls => lv_ladd h.1 h.2.1 hdg (by have := kk H locs ls hP hS hls; rw [show lI (a + b) = lI a + lI b from Int64.ofInt_add a b] at this; exact this)
theorem iI_div {a b : Int} (ha : 0 ≤ a ∧ a < 2147483648) (hb : 0 < b ∧ b < 2147483648) : iI a / iI b = iI (a / b) := by
  rw [show a / b = a.tdiv b from (Int.tdiv_eq_ediv_of_nonneg ha.1).symm]
  exact (Int32.ofInt_tdiv (by show (-2147483648 : Int) ≤ a; omega) (by show a ≤ (2147483647 : Int); omega) (by show (-2147483648 : Int) ≤ b; omega) (by show b ≤ (2147483647 : Int); omega)).symm
theorem iI_mod {a b : Int} (ha : 0 ≤ a ∧ a < 2147483648) (hb : 0 < b ∧ b < 2147483648) : iI a - iI a / iI b * iI b = iI (a % b) := by
  rw [iI_div ha hb, show iI (a / b) * iI b = iI (a / b * b) from (Int32.ofInt_mul _ _).symm, show iI a - iI (a / b * b) = iI (a - a / b * b) from (Int32.ofInt_sub _ _).symm]
  congr 1
  have := Int.emod_add_mul_ediv a b
  rw [Int.mul_comm (a / b) b]
  omega
theorem iI_ne0 {b : Int} (hb : 0 < b ∧ b < 2147483648) : ¬ iI b = 0 := by rw [iI_0, iI_eq (by omega) (by omega)]; omega
theorem k_idiv (h : kOk E X cc own nL rm) {a b : Int} (ha : 0 ≤ a ∧ a < 2147483648) (hb : 0 < b ∧ b < 2147483648) (hdg : decode cc pc = .ok (.idiv, 1)) (kk : kG E X nL k n w (pc + 1) lv (.int (iI (a / b)) :: st)) : kG E X nL k n w pc lv (.int (iI b) :: .int (iI a) :: st) := fun H locs ls hP hS hls => lv_idiv h.1 h.2.1 hdg (iI_ne0 hb) (by have := kk H locs ls hP hS hls; rw [← iI_div ha hb] at this; exact this)
theorem k_irem (h : kOk E X cc own nL rm) {a b : Int} (ha : 0 ≤ a ∧ a < 2147483648) (hb : 0 < b ∧ b < 2147483648) (hdg : decode cc pc = .ok (.irem, 1)) (kk : kG E X nL k n w (pc + 1) lv (.int (iI (a % b)) :: st)) : kG E X nL k n w pc lv (.int (iI b) :: .int (iI a) :: st) := fun H locs ls hP hS hls => lv_irem h.1 h.2.1 hdg (iI_ne0 hb) (by have := kk H locs ls hP hS hls; rw [← iI_mod ha hb] at this; exact this)
theorem lI_i {z : Int} (hz : -2147483648 ≤ z ∧ z < 2147483648) : (iI z).toInt64 = lI z := Int64.toInt.inj (by rw [Int32.toInt_toInt64, iI_to hz, lI_to (by omega)])
theorem k_i2l (h : kOk E X cc own nL rm) {z : Int} (hz : -2147483648 ≤ z ∧ z < 2147483648) (hdg : decode cc pc = .ok (.i2l, 1)) (kk : kG E X nL k n w (pc + 1) lv (.long (lI z) :: st)) : kG E X nL k n w pc lv (.int (iI z) :: st) := fun H locs ls hP hS hls => lv_i2l h.1 h.2.1 hdg (lI_i hz) (kk H locs ls hP hS hls)
theorem iI_char {z : Int} (hz : 0 ≤ z ∧ z < 65536) : ((iI z).toUInt32 % 65536).toInt32 = iI z := by
  obtain ⟨m, rfl⟩ : ∃ m : Nat, z = m := ⟨z.toNat, by omega⟩
  rw [iI_nat]
  rw [pk_char]
  rw [show Int32.ofNat m = nI m from rfl, pk_tn (by omega), Nat.mod_eq_of_lt (by omega)]
theorem k_i2c (h : kOk E X cc own nL rm) {z : Int} (hz : 0 ≤ z ∧ z < 65536) (hdg : decode cc pc = .ok (.i2c, 1)) (kk : kG E X nL k n w (pc + 1) lv (.int (iI z) :: st)) : kG E X nL k n w pc lv (.int (iI z) :: st) := fun H locs ls hP hS hls => lv_i2c h.1 h.2.1 hdg (iI_char hz) (kk H locs ls hP hS hls)
theorem k_i2f (h : kOk E X cc own nL rm) {x : Int32} (hdg : decode cc pc = .ok (.i2f, 1)) (kk : kG E X nL k n w (pc + 1) lv (.float (FP.i2f x) :: st)) : kG E X nL k n w pc lv (.int x :: st) := fun H locs ls hP hS hls => lv_i2f h.1 h.2.1 hdg (kk H locs ls hP hS hls)
theorem k_i2d (h : kOk E X cc own nL rm) {x : Int32} (hdg : decode cc pc = .ok (.i2d, 1)) (kk : kG E X nL k n w (pc + 1) lv (.double (FP.i2d x) :: st)) : kG E X nL k n w pc lv (.int x :: st) := fun H locs ls hP hS hls => lv_i2d h.1 h.2.1 hdg (kk H locs ls hP hS hls)
theorem k_fdiv (h : kOk E X cc own nL rm) {x y : UInt32} (hne : vf_n32 (FP.fdiv x y)) (hdg : decode cc pc = .ok (.fdiv, 1)) (kk : kG E X nL k n w (pc + 1) lv (.float (FP.fdiv x y) :: st)) : kG E X nL k n w pc lv (.float y :: .float x :: st) := fun H locs ls hP hS hls => lv_fdiv h.1 h.2.1 hdg hne (kk H locs ls hP hS hls)
theorem k_ddiv (h : kOk E X cc own nL rm) {x y : UInt64} (hne : vf_n64 (FP.ddiv x y)) (hdg : decode cc pc = .ok (.ddiv, 1)) (kk : kG E X nL k n w (pc + 1) lv (.double (FP.ddiv x y) :: st)) : kG E X nL k n w pc lv (.double y :: .double x :: st) := fun H locs ls hP hS hls => lv_ddiv h.1 h.2.1 hdg hne (kk H locs ls hP hS hls)
theorem k_f2d (h : kOk E X cc own nL rm) {x : UInt32} (hne : vf_n64 (FP.f2d x)) (hdg : decode cc pc = .ok (.f2d, 1)) (kk : kG E X nL k n w (pc + 1) lv (.double (FP.f2d x) :: st)) : kG E X nL k n w pc lv (.float x :: st) := fun H locs ls hP hS hls => lv_f2d h.1 h.2.1 hdg hne (kk H locs ls hP hS hls)
theorem k_dup (h : kOk E X cc own nL rm) {v : Value} (hdg : decode cc pc = .ok (.dup, 1)) (hv : v.category = 1) (kk : kG E X nL k n w (pc + 1) lv (v :: v :: st)) : kG E X nL k n w pc lv (v :: st) := fun H locs ls hP hS hls => lv_dup h.1 h.2.1 hdg hv (kk H locs ls hP hS hls)
theorem k_dup2 (h : kOk E X cc own nL rm) {u v : Value} (hdg : decode cc pc = .ok (.dup2, 1)) (hu : u.category = 1) (hv : v.category = 1) (kk : kG E X nL k n w (pc + 1) lv (u :: v :: u :: v :: st)) : kG E X nL k n w pc lv (u :: v :: st) := fun H locs ls hP hS hls => lv_dup2_11 h.1 h.2.1 hdg hu hv (kk H locs ls hP hS hls)
theorem k_pop (h : kOk E X cc own nL rm) {v : Value} (hdg : decode cc pc = .ok (.pop, 1)) (hv : v.category = 1) (kk : kG E X nL k n w (pc + 1) lv st) : kG E X nL k n w pc lv (v :: st) := fun H locs ls hP hS hls => lv_pop h.1 h.2.1 hdg hv (kk H locs ls hP hS hls)
theorem k_goto (h : kOk E X cc own nL rm) {off : Int} (tgt : Nat) (hdg : decode cc pc = .ok (.goto off, 3)) (ht : (pc : Int) + off = (tgt : Int)) (kk : kG E X nL k n w tgt lv st) : kG E X nL k n w pc lv st := fun H locs ls hP hS hls => lv_goto h.1 h.2.1 hdg ht (kk H locs ls hP hS hls)
theorem k_ifeq (h : kOk E X cc own nL rm) {z off : Int} (tgt : Nat) (hz : -2147483648 ≤ z ∧ z < 2147483648) (hdg : decode cc pc = .ok (.ifCond .eq off, 3)) (ht : (pc : Int) + off = (tgt : Int)) (kt : z = 0 → kG E X nL k n w tgt lv st) (kf : ¬ (z = 0) → kG E X nL k n w (pc + 3) lv st) : kG E X nL k n w pc lv (.int (iI z) :: st) := fun H locs ls hP hS hls => lv_if_eq h.1 h.2.1 hdg ht (fun q => kt (by rw [iI_0] at q; exact (iI_eq hz (by omega)).mp q) H locs ls hP hS hls) (fun q => kf (fun e => q (by rw [iI_0]; exact (iI_eq hz (by omega)).mpr e)) H locs ls hP hS hls)
theorem k_ifne (h : kOk E X cc own nL rm) {z off : Int} (tgt : Nat) (hz : -2147483648 ≤ z ∧ z < 2147483648) (hdg : decode cc pc = .ok (.ifCond .ne off, 3)) (ht : (pc : Int) + off = (tgt : Int)) (kt : z ≠ 0 → kG E X nL k n w tgt lv st) (kf : z = 0 → kG E X nL k n w (pc + 3) lv st) : kG E X nL k n w pc lv (.int (iI z) :: st) := fun H locs ls hP hS hls => lv_if_ne h.1 h.2.1 hdg ht (fun q => kt (fun e => q (by rw [iI_0, iI_eq hz (by omega)]; exact e)) H locs ls hP hS hls) (fun q => kf (by rw [iI_0, iI_eq hz (by omega)] at q; exact q) H locs ls hP hS hls)
theorem k_iflt (h : kOk E X cc own nL rm) {z off : Int} (tgt : Nat) (hz : -2147483648 ≤ z ∧ z < 2147483648) (hdg : decode cc pc = .ok (.ifCond .lt off, 3)) (ht : (pc : Int) + off = (tgt : Int)) (kt : z < 0 → kG E X nL k n w tgt lv st) (kf : ¬ (z < 0) → kG E X nL k n w (pc + 3) lv st) : kG E X nL k n w pc lv (.int (iI z) :: st) := fun H locs ls hP hS hls => lv_if_lt h.1 h.2.1 hdg ht (fun q => kt (by rw [iI_0] at q; exact (iI_lt hz (by omega)).mp q) H locs ls hP hS hls) (fun q => kf (fun e => q (by rw [iI_0]; exact (iI_lt hz (by omega)).mpr e)) H locs ls hP hS hls)
theorem k_ifge (h : kOk E X cc own nL rm) {z off : Int} (tgt : Nat) (hz : -2147483648 ≤ z ∧ z < 2147483648) (hdg : decode cc pc = .ok (.ifCond .ge off, 3)) (ht : (pc : Int) + off = (tgt : Int)) (kt : 0 ≤ z → kG E X nL k n w tgt lv st) (kf : ¬ (0 ≤ z) → kG E X nL k n w (pc + 3) lv st) : kG E X nL k n w pc lv (.int (iI z) :: st) := fun H locs ls hP hS hls => lv_if_ge h.1 h.2.1 hdg ht (fun q => kt (by rw [iI_0] at q; exact (iI_le (by omega) hz).mp q) H locs ls hP hS hls) (fun q => kf (fun e => q (by rw [iI_0]; exact (iI_le (by omega) hz).mpr e)) H locs ls hP hS hls)
theorem k_ifgt (h : kOk E X cc own nL rm) {z off : Int} (tgt : Nat) (hz : -2147483648 ≤ z ∧ z < 2147483648) (hdg : decode cc pc = .ok (.ifCond .gt off, 3)) (ht : (pc : Int) + off = (tgt : Int)) (kt : 0 < z → kG E X nL k n w tgt lv st) (kf : ¬ (0 < z) → kG E X nL k n w (pc + 3) lv st) : kG E X nL k n w pc lv (.int (iI z) :: st) := fun H locs ls hP hS hls => lv_if_gt h.1 h.2.1 hdg ht (fun q => kt (by rw [iI_0] at q; exact (iI_lt (by omega) hz).mp q) H locs ls hP hS hls) (fun q => kf (fun e => q (by rw [iI_0]; exact (iI_lt (by omega) hz).mpr e)) H locs ls hP hS hls)
theorem k_ifle (h : kOk E X cc own nL rm) {z off : Int} (tgt : Nat) (hz : -2147483648 ≤ z ∧ z < 2147483648) (hdg : decode cc pc = .ok (.ifCond .le off, 3)) (ht : (pc : Int) + off = (tgt : Int)) (kt : z ≤ 0 → kG E X nL k n w tgt lv st) (kf : ¬ (z ≤ 0) → kG E X nL k n w (pc + 3) lv st) : kG E X nL k n w pc lv (.int (iI z) :: st) := fun H locs ls hP hS hls => lv_if_le h.1 h.2.1 hdg ht (fun q => kt (by rw [iI_0] at q; exact (iI_le hz (by omega)).mp q) H locs ls hP hS hls) (fun q => kf (fun e => q (by rw [iI_0]; exact (iI_le hz (by omega)).mpr e)) H locs ls hP hS hls)
theorem k_icmp_eq (h : kOk E X cc own nL rm) {a b off : Int} (tgt : Nat) (ha : -2147483648 ≤ a ∧ a < 2147483648) (hb : -2147483648 ≤ b ∧ b < 2147483648) (hdg : decode cc pc = .ok (.if_icmp .eq off, 3)) (ht : (pc : Int) + off = (tgt : Int)) (kt : a = b → kG E X nL k n w tgt lv st) (kf : ¬ (a = b) → kG E X nL k n w (pc + 3) lv st) : kG E X nL k n w pc lv (.int (iI b) :: .int (iI a) :: st) := fun H locs ls hP hS hls => lv_icmp_eq h.1 h.2.1 hdg ht (fun q => kt ((iI_eq ha hb).mp q) H locs ls hP hS hls) (fun q => kf (fun e => q ((iI_eq ha hb).mpr e)) H locs ls hP hS hls)
theorem k_icmp_ne (h : kOk E X cc own nL rm) {a b off : Int} (tgt : Nat) (ha : -2147483648 ≤ a ∧ a < 2147483648) (hb : -2147483648 ≤ b ∧ b < 2147483648) (hdg : decode cc pc = .ok (.if_icmp .ne off, 3)) (ht : (pc : Int) + off = (tgt : Int)) (kt : a ≠ b → kG E X nL k n w tgt lv st) (kf : a = b → kG E X nL k n w (pc + 3) lv st) : kG E X nL k n w pc lv (.int (iI b) :: .int (iI a) :: st) := fun H locs ls hP hS hls => lv_icmp_ne h.1 h.2.1 hdg ht (fun q => kt (fun e => q ((iI_eq ha hb).mpr e)) H locs ls hP hS hls) (fun q => kf ((iI_eq ha hb).mp q) H locs ls hP hS hls)
theorem k_icmp_lt (h : kOk E X cc own nL rm) {a b off : Int} (tgt : Nat) (ha : -2147483648 ≤ a ∧ a < 2147483648) (hb : -2147483648 ≤ b ∧ b < 2147483648) (hdg : decode cc pc = .ok (.if_icmp .lt off, 3)) (ht : (pc : Int) + off = (tgt : Int)) (kt :  a < b → kG E X nL k n w tgt lv st) (kf : ¬ ( a < b) → kG E X nL k n w (pc + 3) lv st) : kG E X nL k n w pc lv (.int (iI b) :: .int (iI a) :: st) := fun H locs ls hP hS hls => lv_icmp_lt h.1 h.2.1 hdg ht (fun q => kt ((iI_lt ha hb).mp q) H locs ls hP hS hls) (fun q => kf (fun e => q ((iI_lt ha hb).mpr e)) H locs ls hP hS hls)
theorem k_icmp_ge (h : kOk E X cc own nL rm) {a b off : Int} (tgt : Nat) (ha : -2147483648 ≤ a ∧ a < 2147483648) (hb : -2147483648 ≤ b ∧ b < 2147483648) (hdg : decode cc pc = .ok (.if_icmp .ge off, 3)) (ht : (pc : Int) + off = (tgt : Int)) (kt : b ≤ a → kG E X nL k n w tgt lv st) (kf : ¬ (b ≤ a) → kG E X nL k n w (pc + 3) lv st) : kG E X nL k n w pc lv (.int (iI b) :: .int (iI a) :: st) := fun H locs ls hP hS hls => lv_icmp_ge h.1 h.2.1 hdg ht (fun q => kt ((iI_le hb ha).mp q) H locs ls hP hS hls) (fun q => kf (fun e => q ((iI_le hb ha).mpr e)) H locs ls hP hS hls)
theorem k_icmp_gt (h : kOk E X cc own nL rm) {a b off : Int} (tgt : Nat) (ha : -2147483648 ≤ a ∧ a < 2147483648) (hb : -2147483648 ≤ b ∧ b < 2147483648) (hdg : decode cc pc = .ok (.if_icmp .gt off, 3)) (ht : (pc : Int) + off = (tgt : Int)) (kt : b < a → kG E X nL k n w tgt lv st) (kf : ¬ (b < a) → kG E X nL k n w (pc + 3) lv st) : kG E X nL k n w pc lv (.int (iI b) :: .int (iI a) :: st) := fun H locs ls hP hS hls => lv_icmp_gt h.1 h.2.1 hdg ht (fun q => kt ((iI_lt hb ha).mp q) H locs ls hP hS hls) (fun q => kf (fun e => q ((iI_lt hb ha).mpr e)) H locs ls hP hS hls)
theorem k_icmp_le (h : kOk E X cc own nL rm) {a b off : Int} (tgt : Nat) (ha : -2147483648 ≤ a ∧ a < 2147483648) (hb : -2147483648 ≤ b ∧ b < 2147483648) (hdg : decode cc pc = .ok (.if_icmp .le off, 3)) (ht : (pc : Int) + off = (tgt : Int)) (kt : a ≤ b → kG E X nL k n w tgt lv st) (kf : ¬ (a ≤ b) → kG E X nL k n w (pc + 3) lv st) : kG E X nL k n w pc lv (.int (iI b) :: .int (iI a) :: st) := fun H locs ls hP hS hls => lv_icmp_le h.1 h.2.1 hdg ht (fun q => kt ((iI_le ha hb).mp q) H locs ls hP hS hls) (fun q => kf (fun e => q ((iI_le ha hb).mpr e)) H locs ls hP hS hls)
theorem k_ifnull (h : kOk E X cc own nL rm) {x : Nat} {off : Int} (hdg : decode cc pc = .ok (.ifnull off, 3)) (kk : kG E X nL k n w (pc + 3) lv st) : kG E X nL k n w pc lv (.ref x :: st) := fun H locs ls hP hS hls => lv_ifnull h.1 h.2.1 hdg (kk H locs ls hP hS hls)
theorem k_ifnullN (h : kOk E X cc own nL rm) {off : Int} (tgt : Nat) (hdg : decode cc pc = .ok (.ifnull off, 3)) (ht : (pc : Int) + off = (tgt : Int)) (kk : kG E X nL k n w tgt lv st) : kG E X nL k n w pc lv (.null :: st) := fun H locs ls hP hS hls => lv_ifnullN h.1 h.2.1 hdg ht (kk H locs ls hP hS hls)
theorem k_ifnonnull (h : kOk E X cc own nL rm) {x : Nat} {off : Int} (tgt : Nat) (hdg : decode cc pc = .ok (.ifnonnull off, 3)) (ht : (pc : Int) + off = (tgt : Int)) (kk : kG E X nL k n w tgt lv st) : kG E X nL k n w pc lv (.ref x :: st) := fun H locs ls hP hS hls => lv_ifnonnull h.1 h.2.1 hdg ht (kk H locs ls hP hS hls)
theorem k_ifnonnullN (h : kOk E X cc own nL rm) {off : Int} (hdg : decode cc pc = .ok (.ifnonnull off, 3)) (kk : kG E X nL k n w (pc + 3) lv st) : kG E X nL k n w pc lv (.null :: st) := fun H locs ls hP hS hls => lv_ifnonnullN h.1 h.2.1 hdg (kk H locs ls hP hS hls)
theorem k_lcmp (h : kOk E X cc own nL rm) {x y : Int64} (hdg : decode cc pc = .ok (.lcmp, 1)) (kk : kG E X nL k n w (pc + 1) lv (.int (lg_cmp x y) :: st)) : kG E X nL k n w pc lv (.long y :: .long x :: st) := fun H locs ls hP hS hls => W.lcmp h.1 h.2.1 hdg (kk H locs ls hP hS hls)
def cmp3 (a b : Int) : Int := if b < a then 1 else if a = b then 0 else -1
theorem lI_lt {a b : Int} (ha : -9223372036854775808 ≤ a ∧ a < 9223372036854775808) (hb : -9223372036854775808 ≤ b ∧ b < 9223372036854775808) : lI a < lI b ↔ a < b := by rw [Int64.lt_iff_toInt_lt, lI_to ha, lI_to hb]
theorem lI_eq {a b : Int} (ha : -9223372036854775808 ≤ a ∧ a < 9223372036854775808) (hb : -9223372036854775808 ≤ b ∧ b < 9223372036854775808) : lI a = lI b ↔ a = b := ⟨fun h => by have := congrArg Int64.toInt h; rwa [lI_to ha, lI_to hb] at this, fun h => by rw [h]⟩
theorem cmp3_rg (a b : Int) : -2147483648 ≤ cmp3 a b ∧ cmp3 a b < 2147483648 := by unfold cmp3; split <;> (try split) <;> omega
theorem cmp3_eq (a b : Int) : cmp3 a b = 0 ↔ a = b := by unfold cmp3; split <;> (try split) <;> omega
theorem cmp3_lt (a b : Int) : cmp3 a b < 0 ↔ a < b := by unfold cmp3; split <;> (try split) <;> omega
theorem cmp3_gt (a b : Int) : 0 < cmp3 a b ↔ b < a := by unfold cmp3; split <;> (try split) <;> omega
theorem lI_cmp {a b : Int} (ha : -9223372036854775808 ≤ a ∧ a < 9223372036854775808) (hb : -9223372036854775808 ≤ b ∧ b < 9223372036854775808) : lg_cmp (lI a) (lI b) = iI (cmp3 a b) := by
  unfold lg_cmp cmp3
  simp only [gt_iff_lt, lI_lt hb ha, lI_eq ha hb]
  split
  · rfl
  · split <;> rfl
theorem k_lcmp3 (h : kOk E X cc own nL rm) {a b : Int} (ha : -9223372036854775808 ≤ a ∧ a < 9223372036854775808) (hb : -9223372036854775808 ≤ b ∧ b < 9223372036854775808) (hdg : decode cc pc = .ok (.lcmp, 1)) (kk : kG E X nL k n w (pc + 1) lv (.int (iI (cmp3 a b)) :: st)) : kG E X nL k n w pc lv (.long (lI b) :: .long (lI a) :: st) := k_lcmp h hdg (by rw [lI_cmp ha hb]; exact kk)
end KROWS
end
section
/-! THE HEAP, CALL AND END ROWS OF THE LAYER. Mine. -/
abbrev ai (N : Nat) (f : Nat → Int) : kC := .inl (0, N, .inl (fun j => iI (f j)))
abbrev az (N : Nat) (f : Nat → Int) : kC := .inl (1, N, .inl (fun j => iI (f j)))
abbrev ac (N : Nat) (f : Nat → Int) : kC := .inl (2, N, .inl (fun j => iI (f j)))
abbrev al (N : Nat) (f : Nat → Int) : kC := .inl (3, N, .inr (.inl (fun j => lI (f j))))
abbrev ad (N : Nat) (f : Nat → UInt64) : kC := .inl (4, N, .inr (.inr (.inr (.inl f))))
abbrev aq (t N : Nat) (f : Nat → Option Nat) : kC := .inl (t, N, .inr (.inr (.inr (.inr f))))
abbrev ob (ci : Nat) (fs : List Value) : kC := .inr (ci, fs)
def kup {α : Type} (f : Nat → α) (k : Nat) (x : α) : Nat → α := fun j => if j = k then x else f j
theorem kup_eq {α : Type} {f : Nat → α} {k : Nat} {x : α} : kup f k x k = x := if_pos rfl
theorem kup_ne {α : Type} {f : Nat → α} {k j : Nat} {x : α} (h : j ≠ k) : kup f k x j = f j := if_neg h
theorem kup_at {α : Type} {f : Nat → α} {k j : Nat} {x : α} : kup f k x j = if j = k then x else f j := rfl
section KHEAP
variable {E : kE} {X : kX} {cc : ByteArray} {own : String} {nL k n pc : Nat} {rm : Room} {w : kW} {lv : List (Nat × Value)} {st : List Value}
theorem k_get (h : kOk E X cc own nL rm) {index ci j a : Nat} {fs : List Value} {v : Value} (q : Nat) (hf : kFd own index ci j) (he : w q = some (a, .inr (ci, fs))) (hv : fs[j]? = some v) (hdg : decode cc pc = .ok (.getfield index, 3)) (kk : kG E X nL k n w (pc + 3) lv (v :: st)) : kG E X nL k n w pc lv (.ref a :: st) := by
  obtain ⟨C, T, N, ty, hc, hin, hj, hl, hty, hnm⟩ := hf
  intro H locs ls hP hS hls
  exact va_get (D := E.1) h.1 h.2.1 h.2.2.2.2.1 hin h.2.2.2.1 h.2.2.2.2.2.1.1 (hP.one he) 0 rfl hc j hj (h.2.2.2.2.1 _ hl) (fun _ h9 => h9) hv hdg (kk H locs ls hP hS hls)
theorem k_put (h : kOk E X cc own nL rm) {index ci j a : Nat} {C9 : String} {fs fs' : List Value} {v : Value} {ty1 : FieldType} (q : Nat) (hf : kFd own index ci j) (hF : kFt C9 ci j ty1 false) (he : w q = some (a, .inr (ci, fs))) (hn : narrow ty1 v = v) (hfit : fits ty1 v = true) (hl : j < fs.length) (hset : fs.set j v = fs') (hdg : decode cc pc = .ok (.putfield index, 3)) (kk : kG E X nL k n (kset w q a (.inr (ci, fs'))) (pc + 3) lv st) : kG E X nL k n w pc lv (v :: .ref a :: st) := by
  subst hset
  obtain ⟨C, T, N, ty, hc, hin, hj, hlk, hty, hnm⟩ := hf
  obtain ⟨hd, hfin, -⟩ := hF C T N hc
  intro H locs ls hP hS hls
  have hts := h.2.2.2.2.1
  have hown := h.2.2.2.1
  have hK := h.2.2.2.2.2.1.1
  have hap := va_apart (own := own) hts hin ty hty hnm hK hc
  obtain ⟨r, h1, cell, q1, q2, q3, q4⟩ := (hP.1 _ _ _ he).1
  have hr : r = (C, T, N) := Option.some.inj (h1.symm.trans hc)
  subst hr
  obtain ⟨hS1, hfc, kC, hkC, hkind⟩ := hK.1 ci _ hc
  obtain ⟨cf, kf, fi, f, hi, hsl⟩ := hS1 j hj
  have hlay := hts _ (hin _ (u_in_lay hj))
  unfold u_lay at hlay
  rw [if_neg (by rw [hfin]; decide)] at hlay
  have hst := (u_facts hfc hkC (u_lays hts hin hj) hi).1
  have h6 := u_store hfc hkC hkind hlay hi hd hn hfit
  refine W.putK h.1 h.2.1 (f := f) ⟨hown, hts _ hlk, ⟨_, _, _, hi⟩, hst⟩ (by rw [q2]; exact h6) q1 q3 (by rw [hsl]; exact k2_hasslot (q4 j hj)) rfl rfl hdg fun H' e1 e2 e3 => ?_
  rw [hsl] at e1 ⊢
  exact kk H' _ ls (hP.set he ⟨_, hc, t_OB.to (V := updV (vp_V fs) j v) ⟨_, e1, q2, q3, t_set q4 hap hj v⟩ (fun i _ => vp_updV_set hl v i)⟩ e3) (hS.put e2 e3 (hP.1 _ _ _ he).2) hls
theorem k_putF (h : kOk E X cc own nL rm) (hinit : (kXme X).name = "<init>") {index ci j a : Nat} {fs fs' : List Value} {v : Value} {ty1 : FieldType} (q : Nat) (hf : kFd own index ci j) (hF : kFt own ci j ty1 true) (he : w q = some (a, .inr (ci, fs))) (hn : narrow ty1 v = v) (hfit : fits ty1 v = true) (hl : j < fs.length) (hset : fs.set j v = fs') (hdg : decode cc pc = .ok (.putfield index, 3)) (kk : kG E X nL k n (kset w q a (.inr (ci, fs'))) (pc + 3) lv st) : kG E X nL k n w pc lv (v :: .ref a :: st) := by
  subst hset
  obtain ⟨C, T, N, ty, hc, hin, hj, hlk, hty, hnm⟩ := hf
  obtain ⟨hd, hfin, hdecl⟩ := hF C T N hc
  intro H locs ls hP hS hls
  have hts := h.2.2.2.2.1
  have hown := h.2.2.2.1
  have hK := h.2.2.2.2.2.1.1
  have hap := va_apart (own := own) hts hin ty hty hnm hK hc
  obtain ⟨r, h1, cell, q1, q2, q3, q4⟩ := (hP.1 _ _ _ he).1
  have hr : r = (C, T, N) := Option.some.inj (h1.symm.trans hc)
  subst hr
  obtain ⟨hS1, hfc, kC, hkC, hkind⟩ := hK.1 ci _ hc
  obtain ⟨cf, kf, fi, f, hi, hsl⟩ := hS1 j hj
  have hlay := hts _ (hin _ (u_in_lay hj))
  unfold u_lay at hlay
  rw [if_pos hfin] at hlay
  have hst := (u_facts hfc hkC (u_lays hts hin hj) hi).1
  have hcf : (kXm X).cls = cf := by
    obtain ⟨_, _, c', _, _, _, -, -, hf', -, -, -, hown2, -⟩ := Cond.laysFinal_spec hlay
    have e1 : c' = cf := by have := hi.symm.trans hf'; simp at this; exact this.1.symm
    rw [hdecl] at hown2
    rw [← e1]; exact Option.some.inj (hown.symm.trans hown2)
  have h6 := u_fits hfc hkC hkind (Or.inr hlay) hi hd hn hfit
  refine W.putFinK h.1 h.2.1 hown (hts _ hlk) hi hst hcf hinit (by rw [q2]; exact h6) q1 q3 (by rw [hsl]; exact k2_hasslot (q4 j hj)) rfl rfl hdg fun H' e1 e2 e3 => ?_
  rw [hsl] at e1 ⊢
  exact kk H' _ ls (hP.set he ⟨_, hc, t_OB.to (V := updV (vp_V fs) j v) ⟨_, e1, q2, q3, t_set q4 hap hj v⟩ (fun i _ => vp_updV_set hl v i)⟩ e3) (hS.put e2 e3 (hP.1 _ _ _ he).2) hls
theorem k_iald (h : kOk E X cc own nL rm) {a N : Nat} {f : Nat → Int} {z : Int} (q : Nat) (ha : w q = some (a, ai N f)) (hz : 0 ≤ z ∧ z < N) (hN : N < 2147483648) (hdg : decode cc pc = .ok (.iaload, 1)) (kk : kG E X nL k n w (pc + 1) lv (.int (iI (f z.toNat)) :: st)) : kG E X nL k n w pc lv (.int (iI z) :: .ref a :: st) := fun H locs ls hP hS hls =>
  va_iald (D := E.1) h.1 h.2.1 h.2.2.2.2.2.1.1 (hP.one ha) 0 0 rfl rfl (iI_in hz hN) hdg (by have := kk H locs ls hP hS hls; rw [iI_cl (by omega)]; exact this)
theorem k_zald (h : kOk E X cc own nL rm) {a N : Nat} {f : Nat → Int} {z : Int} (q : Nat) (ha : w q = some (a, az N f)) (hz : 0 ≤ z ∧ z < N) (hN : N < 2147483648) (hdg : decode cc pc = .ok (.baload, 1)) (kk : kG E X nL k n w (pc + 1) lv (.int (iI (f z.toNat)) :: st)) : kG E X nL k n w pc lv (.int (iI z) :: .ref a :: st) := fun H locs ls hP hS hls =>
  va_zald (D := E.1) h.1 h.2.1 h.2.2.2.2.2.1.1 (hP.one ha) 0 1 rfl rfl (iI_in hz hN) hdg (by have := kk H locs ls hP hS hls; rw [iI_cl (by omega)]; exact this)
theorem k_cald (h : kOk E X cc own nL rm) {a N : Nat} {f : Nat → Int} {z : Int} (q : Nat) (ha : w q = some (a, ac N f)) (hz : 0 ≤ z ∧ z < N) (hN : N < 2147483648) (hdg : decode cc pc = .ok (.caload, 1)) (kk : kG E X nL k n w (pc + 1) lv (.int (iI (f z.toNat)) :: st)) : kG E X nL k n w pc lv (.int (iI z) :: .ref a :: st) := fun H locs ls hP hS hls =>
  va_cald (D := E.1) h.1 h.2.1 h.2.2.2.2.2.1.1 (hP.one ha) 0 2 rfl rfl (iI_in hz hN) hdg (by have := kk H locs ls hP hS hls; rw [iI_cl (by omega)]; exact this)
theorem k_lald (h : kOk E X cc own nL rm) {a N : Nat} {f : Nat → Int} {z : Int} (q : Nat) (ha : w q = some (a, al N f)) (hz : 0 ≤ z ∧ z < N) (hN : N < 2147483648) (hdg : decode cc pc = .ok (.laload, 1)) (kk : kG E X nL k n w (pc + 1) lv (.long (lI (f z.toNat)) :: st)) : kG E X nL k n w pc lv (.int (iI z) :: .ref a :: st) := fun H locs ls hP hS hls =>
  va_lald (D := E.1) h.1 h.2.1 h.2.2.2.2.2.1.1 (hP.one ha) 0 3 rfl rfl (iI_in hz hN) hdg (by have := kk H locs ls hP hS hls; rw [iI_cl (by omega)]; exact this)
theorem k_dald (h : kOk E X cc own nL rm) {a N : Nat} {f : Nat → UInt64} {z : Int} (q : Nat) (ha : w q = some (a, ad N f)) (hz : 0 ≤ z ∧ z < N) (hN : N < 2147483648) (hdg : decode cc pc = .ok (.daload, 1)) (kk : kG E X nL k n w (pc + 1) lv (.double (f z.toNat) :: st)) : kG E X nL k n w pc lv (.int (iI z) :: .ref a :: st) := fun H locs ls hP hS hls =>
  va_dald (D := E.1) h.1 h.2.1 h.2.2.2.2.2.1.1 (hP.one ha) 0 4 rfl rfl (iI_in hz hN) hdg (by have := kk H locs ls hP hS hls; rw [iI_cl (by omega)]; exact this)
theorem k_aald (h : kOk E X cc own nL rm) {a N t : Nat} {C : String} {f : Nat → Option Nat} {z : Int} (q : Nat) (ha : w q = some (a, aq t N f)) (ht : (kT E.2.1)[t]? = some (E.2.1 t, .object C)) (hz : 0 ≤ z ∧ z < N) (hN : N < 2147483648) (hdg : decode cc pc = .ok (.aaload, 1)) (kk : kG E X nL k n w (pc + 1) lv (va_rf (f z.toNat) :: st)) : kG E X nL k n w pc lv (.int (iI z) :: .ref a :: st) := fun H locs ls hP hS hls =>
  va_aldq (D := E.1) h.1 h.2.1 h.2.2.2.2.2.1.1 (hP.one ha) 0 t rfl ht (iI_in hz hN) hdg (by have := kk H locs ls hP hS hls; rw [iI_cl (by omega)]; exact this)
theorem k_alen (h : kOk E X cc own nL rm) {a t : Nat} {x : vp_A} {ty : FieldType} (q : Nat) (ha : w q = some (a, .inl (t, x))) (ht : (kT E.2.1)[t]? = some (E.2.1 t, ty)) (hdg : decode cc pc = .ok (.arraylength, 1)) (kk : kG E X nL k n w (pc + 1) lv (.int (iI (x.1 : Int)) :: st)) : kG E X nL k n w pc lv (.ref a :: st) := fun H locs ls hP hS hls =>
  va_alen (D := E.1) h.1 h.2.1 h.2.2.2.2.2.1.1 (hP.one ha) 0 t rfl ht (iI_nat x.1).symm hdg (kk H locs ls hP hS hls)
theorem k_iast (h : kOk E X cc own nL rm) {a N : Nat} {f : Nat → Int} {z : Int} {x : Int} (q : Nat) (ha : w q = some (a, ai N f)) (hz : 0 ≤ z ∧ z < N) (hN : N < 2147483648) (hdg : decode cc pc = .ok (.iastore, 1)) (kk : kG E X nL k n (kset w q a (ai N (kup f z.toNat x))) (pc + 1) lv st) : kG E X nL k n w pc lv (.int (iI x) :: .int (iI z) :: .ref a :: st) := by
  intro H locs ls hP hS hls
  refine W.iast h.1 h.2.1 (hP.1 _ _ _ ha).1 ((h.2.2.2.2.2.1.1.2 0 _ rfl).1 N (fun j => .int (iI (f j)))) (fun q => by cases q) (by show ¬ (iI z < 0 ∨ (arrV _ _ _).slots.size ≤ _); rw [arrV_size]; exact iI_in hz hN) rfl rfl hdg fun H1 e z1 oq => ?_
  refine kk H1 _ ls (hP.set ha ?_ oq) (hS.put z1 oq (hP.1 _ _ _ ha).2) hls
  show H1[a]? = some (vp_cell _ _)
  rw [e, iI_cl (by omega)]
  show some ((vp_cell (E.2.1 0) _).setSlot _ _) = _
  rw [vp_cell_i, vp_cell_i, arrV_store]
  congr 2
  funext j
  by_cases hq : j = z.toNat
  · subst hq
    simp [updV, kup]
  · simp [updV, kup, hq]
theorem k_zast (h : kOk E X cc own nL rm) {a N : Nat} {f : Nat → Int} {z : Int} {x : Int} (q : Nat) (ha : w q = some (a, az N f)) (hz : 0 ≤ z ∧ z < N) (hN : N < 2147483648) (hx : vp_nar .boolean (iI x) = iI x) (hdg : decode cc pc = .ok (.bastore, 1)) (kk : kG E X nL k n (kset w q a (az N (kup f z.toNat x))) (pc + 1) lv st) : kG E X nL k n w pc lv (.int (iI x) :: .int (iI z) :: .ref a :: st) := by
  intro H locs ls hP hS hls
  refine W.zast h.1 h.2.1 (hP.1 _ _ _ ha).1 ((h.2.2.2.2.2.1.1.2 1 _ rfl).1 N (fun j => .int (iI (f j)))) (fun q => by cases q) (by show ¬ (iI z < 0 ∨ (arrV _ _ _).slots.size ≤ _); rw [arrV_size]; exact iI_in hz hN) rfl rfl hdg fun H1 e z1 oq => ?_
  refine kk H1 _ ls (hP.set ha ?_ oq) (hS.put z1 oq (hP.1 _ _ _ ha).2) hls
  show H1[a]? = some (vp_cell _ _)
  rw [e, iI_cl (by omega)]
  show some ((vp_cell (E.2.1 1) _).setSlot _ _) = _
  rw [vp_cell_i, vp_cell_i, arrV_store]
  congr 2
  funext j
  by_cases hq : j = z.toNat
  · subst hq
    simp [updV, kup]; first | exact hx | (simpa [vp_nar, narrow] using hx) | exact congrArg Value.int hx
  · simp [updV, kup, hq]
theorem k_cast (h : kOk E X cc own nL rm) {a N : Nat} {f : Nat → Int} {z : Int} {x : Int} (q : Nat) (ha : w q = some (a, ac N f)) (hz : 0 ≤ z ∧ z < N) (hN : N < 2147483648) (hx : vp_nar .char (iI x) = iI x) (hdg : decode cc pc = .ok (.castore, 1)) (kk : kG E X nL k n (kset w q a (ac N (kup f z.toNat x))) (pc + 1) lv st) : kG E X nL k n w pc lv (.int (iI x) :: .int (iI z) :: .ref a :: st) := by
  intro H locs ls hP hS hls
  refine W.cast h.1 h.2.1 (hP.1 _ _ _ ha).1 ((h.2.2.2.2.2.1.1.2 2 _ rfl).1 N (fun j => .int (iI (f j)))) (fun q => by cases q) (by show ¬ (iI z < 0 ∨ (arrV _ _ _).slots.size ≤ _); rw [arrV_size]; exact iI_in hz hN) rfl rfl hdg fun H1 e z1 oq => ?_
  refine kk H1 _ ls (hP.set ha ?_ oq) (hS.put z1 oq (hP.1 _ _ _ ha).2) hls
  show H1[a]? = some (vp_cell _ _)
  rw [e, iI_cl (by omega)]
  show some ((vp_cell (E.2.1 2) _).setSlot _ _) = _
  rw [vp_cell_i, vp_cell_i, arrV_store]
  congr 2
  funext j
  by_cases hq : j = z.toNat
  · subst hq
    simp [updV, kup]; first | exact hx | (simpa [vp_nar, narrow] using hx) | exact congrArg Value.int hx
  · simp [updV, kup, hq]
theorem k_last (h : kOk E X cc own nL rm) {a N : Nat} {f : Nat → Int} {z : Int} {x : Int} (q : Nat) (ha : w q = some (a, al N f)) (hz : 0 ≤ z ∧ z < N) (hN : N < 2147483648) (hdg : decode cc pc = .ok (.lastore, 1)) (kk : kG E X nL k n (kset w q a (al N (kup f z.toNat x))) (pc + 1) lv st) : kG E X nL k n w pc lv (.long (lI x) :: .int (iI z) :: .ref a :: st) := by
  intro H locs ls hP hS hls
  refine W.last h.1 h.2.1 (hP.1 _ _ _ ha).1 ((h.2.2.2.2.2.1.1.2 3 _ rfl).1 N (fun j => .long (lI (f j)))) (fun q => by cases q) (by show ¬ (iI z < 0 ∨ (arrV _ _ _).slots.size ≤ _); rw [arrV_size]; exact iI_in hz hN) rfl rfl hdg fun H1 e z1 oq => ?_
  refine kk H1 _ ls (hP.set ha ?_ oq) (hS.put z1 oq (hP.1 _ _ _ ha).2) hls
  show H1[a]? = some (vp_cell _ _)
  rw [e, iI_cl (by omega)]
  show some ((vp_cell (E.2.1 3) _).setSlot _ _) = _
  rw [vp_cell_l, vp_cell_l, arrV_store]
  congr 2
  funext j
  by_cases hq : j = z.toNat
  · subst hq
    simp [updV, kup]
  · simp [updV, kup, hq]
theorem k_dast (h : kOk E X cc own nL rm) {a N : Nat} {f : Nat → UInt64} {z : Int} {x : UInt64} (q : Nat) (ha : w q = some (a, ad N f)) (hz : 0 ≤ z ∧ z < N) (hN : N < 2147483648) (hdg : decode cc pc = .ok (.dastore, 1)) (kk : kG E X nL k n (kset w q a (ad N (kup f z.toNat x))) (pc + 1) lv st) : kG E X nL k n w pc lv (.double x :: .int (iI z) :: .ref a :: st) := by
  intro H locs ls hP hS hls
  refine W.dast h.1 h.2.1 (hP.1 _ _ _ ha).1 ((h.2.2.2.2.2.1.1.2 4 _ rfl).1 N (fun j => .double (f j))) (fun q => by cases q) (by show ¬ (iI z < 0 ∨ (arrV _ _ _).slots.size ≤ _); rw [arrV_size]; exact iI_in hz hN) rfl rfl hdg fun H1 e z1 oq => ?_
  refine kk H1 _ ls (hP.set ha ?_ oq) (hS.put z1 oq (hP.1 _ _ _ ha).2) hls
  show H1[a]? = some (vp_cell _ _)
  rw [e, iI_cl (by omega)]
  show some ((vp_cell (E.2.1 4) _).setSlot _ _) = _
  rw [vp_cell_d, vp_cell_d, arrV_store]
  congr 2
  funext j
  by_cases hq : j = z.toNat
  · subst hq
    simp [updV, kup]
  · simp [updV, kup, hq]
theorem k_aast (h : kOk E X cc own nL rm) {a N t v ci : Nat} {r : vw_C} {vs : List Value} {f : Nat → Option Nat} {z : Int} (q qv : Nat) (ha : w q = some (a, aq t N f)) (ht : (kT E.2.1)[t]? = some (E.2.1 t, .object r.1)) (hv : w qv = some (v, .inr (ci, vs))) (hc : vwCl[ci]? = some r) (hz : 0 ≤ z ∧ z < N) (hN : N < 2147483648) (hdg : decode cc pc = .ok (.aastore, 1)) (kk : kG E X nL k n (kset w q a (aq t N (kup f z.toNat (some v)))) (pc + 1) lv st) : kG E X nL k n w pc lv (.ref v :: .int (iI z) :: .ref a :: st) := by
  intro H locs ls hP hS hls
  have hin := iI_in hz hN
  have hlt : (iI z).toNatClampNeg < N := Nat.not_le.mp fun q => hin (Or.inr q)
  have h0 : ¬ iI z < 0 := fun q => hin (Or.inl q)
  have hK := h.2.2.2.2.2.1.1
  obtain ⟨r', hr', cellV, g1, g2, g3, -⟩ := (hP.1 _ _ _ hv).1
  have hcls := (hK.1 ci r hc).2
  obtain ⟨kA1, comp, k1, k2, k3, -⟩ := (hK.2 t _ ht).2
  have hcomp : comp = E.1.1 ci := Option.some.inj (k3.symm.trans hcls.1)
  subst hcomp
  obtain ⟨kC, hkC, -⟩ := hcls.2
  refine W.aast h.1 h.2.1 (hP.1 _ _ _ ha).1 (fun q h => by cases h) (fun h => by cases h) k1 k2 rfl hkC ⟨h0, by show _ < (arrV _ _ _).slots.size; rw [arrV_size]; exact hlt⟩ g1 (fun q h => by rw [g3] at h; cases h) (by rw [g2]; exact hkC) (by rw [g2]; exact va_assign hcls) rfl rfl hdg fun H1 e z1 oq => ?_
  refine kk H1 _ ls (hP.set ha ?_ oq) (hS.put z1 oq (hP.1 _ _ _ ha).2) hls
  show H1[a]? = some (vp_cell _ _)
  rw [e, iI_cl (by omega)]
  show some ((vp_cell (E.2.1 t) _).setSlot _ _) = _
  rw [vp_cell_q, vp_cell_q, arrV_store]
  congr 2
  funext j
  by_cases hq : j = z.toNat
  · subst hq
    simp [updV, kup, va_rf]
  · simp [updV, kup, hq]
theorem k_new (h : kOk E X cc own nL rm) {index ci N : Nat} {C : String} {T : u_T} {ty : Nat → FieldType} {fs : List Value} (q : Nat) (hc : vwCl[ci]? = some (C, T, N)) (hin : ∀ w ∈ u_ws C T N, w ∈ kAL) (hty : ∀ k, k < N → parseFieldDescriptor (T k).2.2.1 = some (ty k)) (hcl : Cond.classLink own index C ∈ kAL) (hinst : Cond.instantiable C N ∈ kAL) (hini : Cond.initialized C ∈ kAL) (hfs : ∀ j, j < N → defaultValue (ty j) = vp_V fs j) (hr : k + 1 ≤ rm.cells ∧ n + N ≤ rm.slots) (hdg : decode cc pc = .ok (.new index, 3)) (kk : ∀ a : Nat, kG E X nL (k + 1) (n + N) (kset w q a (.inr (ci, fs))) (pc + 3) lv (.ref a :: st)) : kG E X nL k n w pc lv st := by
  intro H locs ls hP hS hls
  have hts := h.2.2.2.2.1
  have hK := h.2.2.2.2.2.1.1
  have hR : kXR X = rm := h.2.2.2.2.2.2.2.2
  have hE := h.2.2.2.2.2.1.2.2.2.2.2.2
  have hKn := hK.1 ci _ hc
  refine W.newcK h.1 h.2.1 h.2.2.2.1 (hts _ hcl) (hts _ hinst) (hts _ hini) rfl hdg (by rw [hR]; exact hr.1) (by rw [hR]; exact hr.2) hKn.2.1 rfl fun H1 kC hkC e1 z1 o1 => ?_
  refine kk H.size H1 locs ls (hP.push rfl (Nat.le_trans hE hS.1) ⟨_, hc, (u_born ty hts hin hKn hkC e1 hty).to hfs⟩ o1) ⟨Nat.le_trans hS.1 (by omega), fun x h1 h2 => (o1 x (Nat.lt_of_lt_of_le h1 hS.1)).trans (hS.2.1 x h1 h2), hS.2.2⟩ hls
theorem k_newa (h : kOk E X cc own nL rm) {atype : ArrayType} {t N : Nat} {z : Int} {a0 : vp_A} (q : Nat) (harr : Cond.arrayClass (newarray.typeOf atype) ∈ kAL) (ht : (kT E.2.1)[t]? = some (E.2.1 t, newarray.typeOf atype)) (ha0 : ∀ cA : ClassId, vp_cell cA a0 = arrV cA N (fun _ => defaultValue (newarray.typeOf atype))) (hz : z = (N : Int)) (hN : N < 100000) (hr : k + 1 ≤ rm.cells ∧ n + N ≤ rm.slots) (hdg : decode cc pc = .ok (.newarray atype, 2)) (kk : ∀ a : Nat, kG E X nL (k + 1) (n + N) (kset w q a (.inl (t, a0))) (pc + 2) lv (.ref a :: st)) : kG E X nL k n w pc lv (.int (iI z) :: st) := by
  subst hz
  intro H locs ls hP hS hls
  have hts := h.2.2.2.2.1
  have hK := h.2.2.2.2.2.1.1
  have hR : kXR X = rm := h.2.2.2.2.2.2.2.2
  have hE := h.2.2.2.2.2.1.2.2.2.2.2.2
  refine va_newaK h.1 h.2.1 (hts _ harr) rfl hdg rfl (by rw [iI_0, iI_lt (by omega) (by omega)]; omega) (N := N) (by rw [iI_cl (by omega)]; rfl) (by cases atype <;> (simp [componentBytes, newarray.typeOf]; try omega)) (by rw [hR]; exact hr.1) (by rw [hR]; exact hr.2) rfl fun H1 cA e1 z1 o1 hAr hNm => ?_
  have hcA : cA = E.2.1 t := by
    have h2 := (hK.2 t _ ht).2
    have h3 : (kXs X).vm.findClass ("[" ++ (newarray.typeOf atype).toString) = some (E.2.1 t) := by
      cases atype <;> exact h2
    exact Option.some.inj (hNm.symm.trans h3)
  subst hcA
  refine kk H.size H1 locs ls (hP.push rfl (Nat.le_trans hE hS.1) ?_ o1) ⟨Nat.le_trans hS.1 (by omega), fun x h1 h2 => (o1 x (Nat.lt_of_lt_of_le h1 hS.1)).trans (hS.2.1 x h1 h2), hS.2.2⟩ hls
  show H1[H.size]? = some (vp_cell _ _)
  rw [ha0]
  exact e1
theorem k_anewa (h : kOk E X cc own nL rm) {index t N : Nat} {C : String} {z : Int} (q : Nat) (hcl : Cond.classLink own index C ∈ kAL) (hover : va_AO C (kXs X)) (ht : (kT E.2.1)[t]? = some (E.2.1 t, .object C)) (hz : z = (N : Int)) (hN : N < 100000) (hr : k + 1 ≤ rm.cells ∧ n + N ≤ rm.slots) (hdg : decode cc pc = .ok (.anewarray index, 3)) (kk : ∀ a : Nat, kG E X nL (k + 1) (n + N) (kset w q a (aq t N (fun _ => none))) (pc + 3) lv (.ref a :: st)) : kG E X nL k n w pc lv (.int (iI z) :: st) := by
  subst hz
  intro H locs ls hP hS hls
  have hts := h.2.2.2.2.1
  have hK := h.2.2.2.2.2.1.1
  have hR : kXR X = rm := h.2.2.2.2.2.2.2.2
  have hE := h.2.2.2.2.2.1.2.2.2.2.2.2
  refine W.anew h.1 h.2.1 h.2.2.2.1 (hts _ hcl) (va_AO.use hover) rfl hdg rfl (by rw [iI_0, iI_lt (by omega) (by omega)]; omega) (by rw [iI_cl (by omega)]; omega) (by rw [hR]; exact hr.1) (by rw [hR, iI_cl (by omega)]; exact hr.2) fun cA kA1 comp f1 f2 f3 f4 => ?_
  rw [iI_cl (by omega)]
  have hcA : cA = E.2.1 t := by
    obtain ⟨kA2, comp2, g1, g2, g3, g4⟩ := (hK.2 t _ ht).2
    exact Option.some.inj (f1.symm.trans g4)
  subst hcA
  generalize hH1 : H.push ({ cls := E.2.1 t, slots := Array.replicate (N : Int).toNat .null, vm := .none } : Cell) = H1
  have z1 : H1.size = H.size + 1 := by rw [← hH1, Array.size_push]
  have e1 : H1[H.size]? = some (arrV (E.2.1 t) N (fun _ => .null)) := by rw [← hH1, Array.getElem?_push_size, ← arrV_new]; rfl
  have o1 : ∀ q : Nat, q < H.size → H1[q]? = H[q]? := fun q hq => by rw [← hH1, Array.getElem?_push, if_neg (Nat.ne_of_lt hq)]
  refine kk H.size H1 locs ls (hP.push rfl (Nat.le_trans hE hS.1) ?_ o1) ⟨Nat.le_trans hS.1 (by omega), fun x h1 h2 => (o1 x (Nat.lt_of_lt_of_le h1 hS.1)).trans (hS.2.1 x h1 h2), hS.2.2⟩ hls
  show H1[H.size]? = some (vp_cell _ _)
  rw [vp_cell_q]
  exact e1
theorem k_objInit (h : kOk E X cc own nL rm) {index a : Nat} (hlink : Cond.methodLink own index objectInit ∈ kAL) (hin : Cond.instanceMethod objectInit ∈ kAL) (hcode : Cond.code objectInit ⟨#[0xb1]⟩ 1 none ∈ kAL) (hr : 1 ≤ rm.frames ∧ (st.map fun v => v.category).sum + 12 ≤ rm.locals) (hdg : decode cc pc = .ok (.invokespecial index, 3)) (kk : kG E X nL k n w (pc + 3) lv st) : kG E X nL k n w pc lv (.ref a :: st) := by
  intro H locs ls hP hS hls
  have hts := h.2.2.2.2.1
  have hR : kXR X = rm := h.2.2.2.2.2.2.2.2
  refine W.objInit h.1 h.2.1 h.2.2.2.1 (hts _ hlink) (hts _ hin) (hts _ hcode) rfl (by rw [h.2.2.1]; exact hls.1) rfl hdg (by rw [hR]; exact hr.1) (by rw [hR]; show 2 * 0 + _ + 12 ≤ _; omega) ?_
  exact kk H locs ls hP hS hls
theorem k_max (h : kOk E X cc own nL rm) {index : Nat} {a b : Int} (ha : -2147483648 ≤ a ∧ a < 2147483648) (hb : -2147483648 ≤ b ∧ b < 2147483648) (hlink : Cond.methodLink own index Lib.Math.max.name ∈ kAL) (hstat : Cond.static Lib.Math.max.name ∈ kAL) (hini : Cond.initialized "java/lang/Math" ∈ kAL) (hcode : Cond.code Lib.Math.max.name Lib.Math.max.code 2 (some .int) ∈ kAL) (hr : 1 ≤ rm.frames ∧ (st.map fun v => v.category).sum + 13 ≤ rm.locals ∧ k ≤ rm.cells ∧ n ≤ rm.slots) (hdg : decode cc pc = .ok (.invokestatic index, 3)) (kk : kG E X nL k n w (pc + 3) lv (.int (iI (if a < b then b else a)) :: st)) : kG E X nL k n w pc lv (.int (iI b) :: .int (iI a) :: st) := by
  intro H locs ls hP hS hls
  have hts := h.2.2.2.2.1
  have hR : kXR X = rm := h.2.2.2.2.2.2.2.2
  refine va_mmax h.1 h.2.1 (h.2.2.1.trans hls.1.symm) h.2.2.2.1 (hts _ hlink) (hts _ hstat) (hts _ hini) (hts _ hcode) (by rw [hR]; exact hr.1) (by rw [hR]; exact hr.2.1) (by rw [hR]; exact hr.2.2.1) (by rw [hR]; exact hr.2.2.2) hdg ?_
  have := kk H locs ls hP hS hls
  by_cases hab : a < b
  · rw [if_pos ((iI_lt ha hb).mpr hab)]; rw [if_pos hab] at this; exact this
  · rw [if_neg (fun e => hab ((iI_lt ha hb).mp e))]; rw [if_neg hab] at this; exact this
theorem k_min (h : kOk E X cc own nL rm) {index : Nat} {a b : Int} (ha : -2147483648 ≤ a ∧ a < 2147483648) (hb : -2147483648 ≤ b ∧ b < 2147483648) (hlink : Cond.methodLink own index Lib.Math.min.name ∈ kAL) (hstat : Cond.static Lib.Math.min.name ∈ kAL) (hini : Cond.initialized "java/lang/Math" ∈ kAL) (hcode : Cond.code Lib.Math.min.name Lib.Math.min.code 2 (some .int) ∈ kAL) (hr : 1 ≤ rm.frames ∧ (st.map fun v => v.category).sum + 13 ≤ rm.locals ∧ k ≤ rm.cells ∧ n ≤ rm.slots) (hdg : decode cc pc = .ok (.invokestatic index, 3)) (kk : kG E X nL k n w (pc + 3) lv (.int (iI (if a ≤ b then a else b)) :: st)) : kG E X nL k n w pc lv (.int (iI b) :: .int (iI a) :: st) := by
  intro H locs ls hP hS hls
  have hts := h.2.2.2.2.1
  have hR : kXR X = rm := h.2.2.2.2.2.2.2.2
  refine va_mmin h.1 h.2.1 (h.2.2.1.trans hls.1.symm) h.2.2.2.1 (hts _ hlink) (hts _ hstat) (hts _ hini) (hts _ hcode) (by rw [hR]; exact hr.1) (by rw [hR]; exact hr.2.1) (by rw [hR]; exact hr.2.2.1) (by rw [hR]; exact hr.2.2.2) hdg ?_
  have := kk H locs ls hP hS hls
  first
    | (by_cases hab : a ≤ b
       · rw [if_pos ((iI_le ha hb).mpr hab)]; rw [if_pos hab] at this; exact this
       · rw [if_neg (fun e => hab ((iI_le ha hb).mp e))]; rw [if_neg hab] at this; exact this)
    | (by_cases hab : b < a
       · rw [if_pos ((iI_lt hb ha).mpr hab)]; rw [if_neg (by omega)] at this; exact this
       · rw [if_neg (fun e => hab ((iI_lt hb ha).mp e))]; rw [if_pos (by omega)] at this; exact this)
    | (by_cases hab : a < b
       · rw [if_pos ((iI_lt ha hb).mpr hab)]; rw [if_pos (by omega)] at this; exact this
       · rw [if_neg (fun e => hab ((iI_lt ha hb).mp e))]
         by_cases e : a = b
         · subst e; rw [if_pos (by omega)] at this; exact this
         · rw [if_neg (by omega)] at this; exact this)
end KHEAP
end
