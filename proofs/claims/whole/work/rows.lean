section
-- ===== PART A: goes FIRST, ahead of the names: the tables' words, and 'selects' of the private methods out of them =====
/-- a private method of a class that the tables say can be made, by its rows of tables_1 -/
def lw_okq (q : MethodName × Nat) : Prop := (q.1.cls ≠ "java/lang/invoke/MethodHandle" ∧ q.1.cls ≠ "java/lang/invoke/VarHandle") ∧ Cond.instantiable q.1.cls q.2 ∈ tables_1 ∧ Cond.privateMethod q.1 ∈ tables_1 ∧ Cond.instanceMethod q.1 ∈ tables_1
theorem lw_p0 : lw_okq (⟨"AmplifierDesk$Replies", "writeRows", "(LAmplifierDesk$Parts;I)V"⟩, 3) := ⟨⟨by decide +kernel, by decide +kernel⟩, List.mem_of_getElem? (i := 104) (by decide +kernel), List.mem_of_getElem? (i := 225) (by decide +kernel), List.mem_of_getElem? (i := 226) (by decide +kernel)⟩
theorem lw_p1 : lw_okq (⟨"AmplifierDesk$Replies", "giveVoltage", "(I)V"⟩, 3) := ⟨⟨by decide +kernel, by decide +kernel⟩, List.mem_of_getElem? (i := 104) (by decide +kernel), List.mem_of_getElem? (i := 247) (by decide +kernel), List.mem_of_getElem? (i := 248) (by decide +kernel)⟩
theorem lw_p2 : lw_okq (⟨"AmplifierDesk$Replies", "join", "(IIII)V"⟩, 3) := ⟨⟨by decide +kernel, by decide +kernel⟩, List.mem_of_getElem? (i := 104) (by decide +kernel), List.mem_of_getElem? (i := 251) (by decide +kernel), List.mem_of_getElem? (i := 252) (by decide +kernel)⟩
theorem lw_p3 : lw_okq (⟨"AmplifierDesk$Replies", "equateInputs", "(III)V"⟩, 3) := ⟨⟨by decide +kernel, by decide +kernel⟩, List.mem_of_getElem? (i := 104) (by decide +kernel), List.mem_of_getElem? (i := 255) (by decide +kernel), List.mem_of_getElem? (i := 256) (by decide +kernel)⟩
theorem lw_p4 : lw_okq (⟨"AmplifierDesk$Replies", "eliminate", "()J"⟩, 3) := ⟨⟨by decide +kernel, by decide +kernel⟩, List.mem_of_getElem? (i := 104) (by decide +kernel), List.mem_of_getElem? (i := 260) (by decide +kernel), List.mem_of_getElem? (i := 261) (by decide +kernel)⟩
theorem lw_p5 : lw_okq (⟨"AmplifierDesk$Replies", "bringPivot", "(I)Z"⟩, 3) := ⟨⟨by decide +kernel, by decide +kernel⟩, List.mem_of_getElem? (i := 104) (by decide +kernel), List.mem_of_getElem? (i := 264) (by decide +kernel), List.mem_of_getElem? (i := 265) (by decide +kernel)⟩
theorem lw_p6 : lw_okq (⟨"AmplifierDesk$Replies", "clearColumn", "(IJ)V"⟩, 3) := ⟨⟨by decide +kernel, by decide +kernel⟩, List.mem_of_getElem? (i := 104) (by decide +kernel), List.mem_of_getElem? (i := 268) (by decide +kernel), List.mem_of_getElem? (i := 269) (by decide +kernel)⟩
theorem lw_p7 : lw_okq (⟨"AmplifierDesk$Replies", "copyAnswers", "([JI)V"⟩, 3) := ⟨⟨by decide +kernel, by decide +kernel⟩, List.mem_of_getElem? (i := 104) (by decide +kernel), List.mem_of_getElem? (i := 275) (by decide +kernel), List.mem_of_getElem? (i := 276) (by decide +kernel)⟩
theorem lw_p8 : lw_okq (⟨"AmplifierDesk$Bench", "holds", "(I)Z"⟩, 8) := ⟨⟨by decide +kernel, by decide +kernel⟩, List.mem_of_getElem? (i := 30) (by decide +kernel), List.mem_of_getElem? (i := 330) (by decide +kernel), List.mem_of_getElem? (i := 331) (by decide +kernel)⟩
theorem lw_p9 : lw_okq (⟨"AmplifierDesk$Bench", "saturatedIn", "(I)I"⟩, 8) := ⟨⟨by decide +kernel, by decide +kernel⟩, List.mem_of_getElem? (i := 30) (by decide +kernel), List.mem_of_getElem? (i := 342) (by decide +kernel), List.mem_of_getElem? (i := 343) (by decide +kernel)⟩
theorem lw_p10 : lw_okq (⟨"AmplifierDesk$Bench", "faultOf", "(II)I"⟩, 8) := ⟨⟨by decide +kernel, by decide +kernel⟩, List.mem_of_getElem? (i := 30) (by decide +kernel), List.mem_of_getElem? (i := 356) (by decide +kernel), List.mem_of_getElem? (i := 357) (by decide +kernel)⟩
theorem lw_p11 : lw_okq (⟨"AmplifierDesk$Bench", "signOfInput", "(I)I"⟩, 8) := ⟨⟨by decide +kernel, by decide +kernel⟩, List.mem_of_getElem? (i := 30) (by decide +kernel), List.mem_of_getElem? (i := 360) (by decide +kernel), List.mem_of_getElem? (i := 361) (by decide +kernel)⟩
theorem lw_p12 : lw_okq (⟨"AmplifierDesk$Bench", "hasNegativeFeedback", "(I)Z"⟩, 8) := ⟨⟨by decide +kernel, by decide +kernel⟩, List.mem_of_getElem? (i := 30) (by decide +kernel), List.mem_of_getElem? (i := 376) (by decide +kernel), List.mem_of_getElem? (i := 377) (by decide +kernel)⟩
theorem lw_p13 : lw_okq (⟨"AmplifierDesk$Bench", "changesTo", "(I)I"⟩, 8) := ⟨⟨by decide +kernel, by decide +kernel⟩, List.mem_of_getElem? (i := 30) (by decide +kernel), List.mem_of_getElem? (i := 385) (by decide +kernel), List.mem_of_getElem? (i := 386) (by decide +kernel)⟩
theorem lw_p14 : lw_okq (⟨"AmplifierDesk$TextReader", "startPart", "(I)V"⟩, 9) := ⟨⟨by decide +kernel, by decide +kernel⟩, List.mem_of_getElem? (i := 155) (by decide +kernel), List.mem_of_getElem? (i := 401) (by decide +kernel), List.mem_of_getElem? (i := 402) (by decide +kernel)⟩
theorem lw_p15 : lw_okq (⟨"AmplifierDesk$TextReader", "accepts", "(C)Z"⟩, 9) := ⟨⟨by decide +kernel, by decide +kernel⟩, List.mem_of_getElem? (i := 155) (by decide +kernel), List.mem_of_getElem? (i := 405) (by decide +kernel), List.mem_of_getElem? (i := 406) (by decide +kernel)⟩
def lw_privs_1 : List (MethodName × Nat) := [(⟨"AmplifierDesk$Replies", "writeRows", "(LAmplifierDesk$Parts;I)V"⟩, 3), (⟨"AmplifierDesk$Replies", "giveVoltage", "(I)V"⟩, 3), (⟨"AmplifierDesk$Replies", "join", "(IIII)V"⟩, 3), (⟨"AmplifierDesk$Replies", "equateInputs", "(III)V"⟩, 3), (⟨"AmplifierDesk$Replies", "eliminate", "()J"⟩, 3), (⟨"AmplifierDesk$Replies", "bringPivot", "(I)Z"⟩, 3), (⟨"AmplifierDesk$Replies", "clearColumn", "(IJ)V"⟩, 3), (⟨"AmplifierDesk$Replies", "copyAnswers", "([JI)V"⟩, 3), (⟨"AmplifierDesk$Bench", "holds", "(I)Z"⟩, 8), (⟨"AmplifierDesk$Bench", "saturatedIn", "(I)I"⟩, 8), (⟨"AmplifierDesk$Bench", "faultOf", "(II)I"⟩, 8), (⟨"AmplifierDesk$Bench", "signOfInput", "(I)I"⟩, 8), (⟨"AmplifierDesk$Bench", "hasNegativeFeedback", "(I)Z"⟩, 8), (⟨"AmplifierDesk$Bench", "changesTo", "(I)I"⟩, 8), (⟨"AmplifierDesk$TextReader", "startPart", "(I)V"⟩, 9), (⟨"AmplifierDesk$TextReader", "accepts", "(C)Z"⟩, 9)]
theorem lw_r1 : ∀ q ∈ lw_privs_1, lw_okq q := List.forall_mem_cons.mpr ⟨lw_p0, List.forall_mem_cons.mpr ⟨lw_p1, List.forall_mem_cons.mpr ⟨lw_p2, List.forall_mem_cons.mpr ⟨lw_p3, List.forall_mem_cons.mpr ⟨lw_p4, List.forall_mem_cons.mpr ⟨lw_p5, List.forall_mem_cons.mpr ⟨lw_p6, List.forall_mem_cons.mpr ⟨lw_p7, List.forall_mem_cons.mpr ⟨lw_p8, List.forall_mem_cons.mpr ⟨lw_p9, List.forall_mem_cons.mpr ⟨lw_p10, List.forall_mem_cons.mpr ⟨lw_p11, List.forall_mem_cons.mpr ⟨lw_p12, List.forall_mem_cons.mpr ⟨lw_p13, List.forall_mem_cons.mpr ⟨lw_p14, List.forall_mem_cons.mpr ⟨lw_p15, fun _ h => absurd h List.not_mem_nil⟩⟩⟩⟩⟩⟩⟩⟩⟩⟩⟩⟩⟩⟩⟩⟩
theorem lw_p16 : lw_okq (⟨"AmplifierDesk$TextReader", "acceptsLetter", "(C)Z"⟩, 9) := ⟨⟨by decide +kernel, by decide +kernel⟩, List.mem_of_getElem? (i := 155) (by decide +kernel), List.mem_of_getElem? (i := 409) (by decide +kernel), List.mem_of_getElem? (i := 410) (by decide +kernel)⟩
theorem lw_p17 : lw_okq (⟨"AmplifierDesk$TextReader", "endsPart", "()Z"⟩, 9) := ⟨⟨by decide +kernel, by decide +kernel⟩, List.mem_of_getElem? (i := 155) (by decide +kernel), List.mem_of_getElem? (i := 416) (by decide +kernel), List.mem_of_getElem? (i := 417) (by decide +kernel)⟩
theorem lw_p18 : lw_okq (⟨"AmplifierDesk$TextReader", "acceptsInSource", "(C)Z"⟩, 9) := ⟨⟨by decide +kernel, by decide +kernel⟩, List.mem_of_getElem? (i := 155) (by decide +kernel), List.mem_of_getElem? (i := 421) (by decide +kernel), List.mem_of_getElem? (i := 422) (by decide +kernel)⟩
theorem lw_p19 : lw_okq (⟨"AmplifierDesk$TextReader", "acceptsInValue", "(C)Z"⟩, 9) := ⟨⟨by decide +kernel, by decide +kernel⟩, List.mem_of_getElem? (i := 155) (by decide +kernel), List.mem_of_getElem? (i := 428) (by decide +kernel), List.mem_of_getElem? (i := 429) (by decide +kernel)⟩
theorem lw_p20 : lw_okq (⟨"AmplifierDesk$TextReader", "acceptsDigit", "(C)Z"⟩, 9) := ⟨⟨by decide +kernel, by decide +kernel⟩, List.mem_of_getElem? (i := 155) (by decide +kernel), List.mem_of_getElem? (i := 432) (by decide +kernel), List.mem_of_getElem? (i := 433) (by decide +kernel)⟩
theorem lw_p21 : lw_okq (⟨"java/lang/Throwable", "fillInStackTrace", "(I)Ljava/lang/Throwable;"⟩, 6) := ⟨⟨by decide +kernel, by decide +kernel⟩, List.mem_of_getElem? (i := 493) (by decide +kernel), List.mem_of_getElem? (i := 491) (by decide +kernel), List.mem_of_getElem? (i := 492) (by decide +kernel)⟩
theorem lw_p22 : lw_okq (⟨"AmplifierDesk", "holdingCases", "()I"⟩, 6) := ⟨⟨by decide +kernel, by decide +kernel⟩, List.mem_of_getElem? (i := 22) (by decide +kernel), List.mem_of_getElem? (i := 564) (by decide +kernel), List.mem_of_getElem? (i := 565) (by decide +kernel)⟩
theorem lw_p23 : lw_okq (⟨"AmplifierDesk", "determinedCases", "()I"⟩, 6) := ⟨⟨by decide +kernel, by decide +kernel⟩, List.mem_of_getElem? (i := 22) (by decide +kernel), List.mem_of_getElem? (i := 570) (by decide +kernel), List.mem_of_getElem? (i := 571) (by decide +kernel)⟩
theorem lw_p24 : lw_okq (⟨"AmplifierDesk", "mixedParts", "(J)J"⟩, 6) := ⟨⟨by decide +kernel, by decide +kernel⟩, List.mem_of_getElem? (i := 22) (by decide +kernel), List.mem_of_getElem? (i := 580) (by decide +kernel), List.mem_of_getElem? (i := 581) (by decide +kernel)⟩
theorem lw_p25 : lw_okq (⟨"AmplifierDesk", "requirePart", "(I)V"⟩, 6) := ⟨⟨by decide +kernel, by decide +kernel⟩, List.mem_of_getElem? (i := 22) (by decide +kernel), List.mem_of_getElem? (i := 588) (by decide +kernel), List.mem_of_getElem? (i := 589) (by decide +kernel)⟩
theorem lw_p26 : lw_okq (⟨"AmplifierDesk", "mixedVoltages", "(J)J"⟩, 6) := ⟨⟨by decide +kernel, by decide +kernel⟩, List.mem_of_getElem? (i := 22) (by decide +kernel), List.mem_of_getElem? (i := 594) (by decide +kernel), List.mem_of_getElem? (i := 595) (by decide +kernel)⟩
theorem lw_p27 : lw_okq (⟨"AmplifierDesk", "mixedAmplifiers", "(J)J"⟩, 6) := ⟨⟨by decide +kernel, by decide +kernel⟩, List.mem_of_getElem? (i := 22) (by decide +kernel), List.mem_of_getElem? (i := 598) (by decide +kernel), List.mem_of_getElem? (i := 599) (by decide +kernel)⟩
theorem lw_p28 : lw_okq (⟨"AmplifierDesk", "requireCase", "(I)V"⟩, 6) := ⟨⟨by decide +kernel, by decide +kernel⟩, List.mem_of_getElem? (i := 22) (by decide +kernel), List.mem_of_getElem? (i := 617) (by decide +kernel), List.mem_of_getElem? (i := 618) (by decide +kernel)⟩
theorem lw_p29 : lw_okq (⟨"AmplifierDesk$Parts", "hasNodesAsTold", "(I)Z"⟩, 5) := ⟨⟨by decide +kernel, by decide +kernel⟩, List.mem_of_getElem? (i := 42) (by decide +kernel), List.mem_of_getElem? (i := 652) (by decide +kernel), List.mem_of_getElem? (i := 653) (by decide +kernel)⟩
theorem lw_p30 : lw_okq (⟨"AmplifierDesk", "requireSettable", "(II)V"⟩, 6) := ⟨⟨by decide +kernel, by decide +kernel⟩, List.mem_of_getElem? (i := 22) (by decide +kernel), List.mem_of_getElem? (i := 692) (by decide +kernel), List.mem_of_getElem? (i := 693) (by decide +kernel)⟩
theorem lw_p31 : lw_okq (⟨"AmplifierDesk", "requireSource", "(I)V"⟩, 6) := ⟨⟨by decide +kernel, by decide +kernel⟩, List.mem_of_getElem? (i := 22) (by decide +kernel), List.mem_of_getElem? (i := 733) (by decide +kernel), List.mem_of_getElem? (i := 734) (by decide +kernel)⟩
def lw_privs_2 : List (MethodName × Nat) := [(⟨"AmplifierDesk$TextReader", "acceptsLetter", "(C)Z"⟩, 9), (⟨"AmplifierDesk$TextReader", "endsPart", "()Z"⟩, 9), (⟨"AmplifierDesk$TextReader", "acceptsInSource", "(C)Z"⟩, 9), (⟨"AmplifierDesk$TextReader", "acceptsInValue", "(C)Z"⟩, 9), (⟨"AmplifierDesk$TextReader", "acceptsDigit", "(C)Z"⟩, 9), (⟨"java/lang/Throwable", "fillInStackTrace", "(I)Ljava/lang/Throwable;"⟩, 6), (⟨"AmplifierDesk", "holdingCases", "()I"⟩, 6), (⟨"AmplifierDesk", "determinedCases", "()I"⟩, 6), (⟨"AmplifierDesk", "mixedParts", "(J)J"⟩, 6), (⟨"AmplifierDesk", "requirePart", "(I)V"⟩, 6), (⟨"AmplifierDesk", "mixedVoltages", "(J)J"⟩, 6), (⟨"AmplifierDesk", "mixedAmplifiers", "(J)J"⟩, 6), (⟨"AmplifierDesk", "requireCase", "(I)V"⟩, 6), (⟨"AmplifierDesk$Parts", "hasNodesAsTold", "(I)Z"⟩, 5), (⟨"AmplifierDesk", "requireSettable", "(II)V"⟩, 6), (⟨"AmplifierDesk", "requireSource", "(I)V"⟩, 6)]
theorem lw_r2 : ∀ q ∈ lw_privs_2, lw_okq q := List.forall_mem_cons.mpr ⟨lw_p16, List.forall_mem_cons.mpr ⟨lw_p17, List.forall_mem_cons.mpr ⟨lw_p18, List.forall_mem_cons.mpr ⟨lw_p19, List.forall_mem_cons.mpr ⟨lw_p20, List.forall_mem_cons.mpr ⟨lw_p21, List.forall_mem_cons.mpr ⟨lw_p22, List.forall_mem_cons.mpr ⟨lw_p23, List.forall_mem_cons.mpr ⟨lw_p24, List.forall_mem_cons.mpr ⟨lw_p25, List.forall_mem_cons.mpr ⟨lw_p26, List.forall_mem_cons.mpr ⟨lw_p27, List.forall_mem_cons.mpr ⟨lw_p28, List.forall_mem_cons.mpr ⟨lw_p29, List.forall_mem_cons.mpr ⟨lw_p30, List.forall_mem_cons.mpr ⟨lw_p31, fun _ h => absurd h List.not_mem_nil⟩⟩⟩⟩⟩⟩⟩⟩⟩⟩⟩⟩⟩⟩⟩⟩
theorem lw_p32 : lw_okq (⟨"AmplifierDesk", "requireImage", "(I)V"⟩, 6) := ⟨⟨by decide +kernel, by decide +kernel⟩, List.mem_of_getElem? (i := 22) (by decide +kernel), List.mem_of_getElem? (i := 767) (by decide +kernel), List.mem_of_getElem? (i := 768) (by decide +kernel)⟩
theorem lw_p33 : lw_okq (⟨"AmplifierDeskModel", "record", "()V"⟩, 24) := ⟨⟨by decide +kernel, by decide +kernel⟩, List.mem_of_getElem? (i := 847) (by decide +kernel), List.mem_of_getElem? (i := 934) (by decide +kernel), List.mem_of_getElem? (i := 935) (by decide +kernel)⟩
theorem lw_p34 : lw_okq (⟨"AmplifierDeskModel", "copy", "([II[II)V"⟩, 24) := ⟨⟨by decide +kernel, by decide +kernel⟩, List.mem_of_getElem? (i := 847) (by decide +kernel), List.mem_of_getElem? (i := 938) (by decide +kernel), List.mem_of_getElem? (i := 939) (by decide +kernel)⟩
theorem lw_p35 : lw_okq (⟨"AmplifierDeskModel", "settle", "()V"⟩, 24) := ⟨⟨by decide +kernel, by decide +kernel⟩, List.mem_of_getElem? (i := 847) (by decide +kernel), List.mem_of_getElem? (i := 942) (by decide +kernel), List.mem_of_getElem? (i := 943) (by decide +kernel)⟩
theorem lw_p36 : lw_okq (⟨"AmplifierDeskModel", "cases", "()I"⟩, 24) := ⟨⟨by decide +kernel, by decide +kernel⟩, List.mem_of_getElem? (i := 847) (by decide +kernel), List.mem_of_getElem? (i := 946) (by decide +kernel), List.mem_of_getElem? (i := 947) (by decide +kernel)⟩
theorem lw_p37 : lw_okq (⟨"AmplifierDeskModel", "amplifiers", "()I"⟩, 24) := ⟨⟨by decide +kernel, by decide +kernel⟩, List.mem_of_getElem? (i := 847) (by decide +kernel), List.mem_of_getElem? (i := 950) (by decide +kernel), List.mem_of_getElem? (i := 951) (by decide +kernel)⟩
theorem lw_p38 : lw_okq (⟨"AmplifierDeskModel", "is", "(II)Z"⟩, 24) := ⟨⟨by decide +kernel, by decide +kernel⟩, List.mem_of_getElem? (i := 847) (by decide +kernel), List.mem_of_getElem? (i := 954) (by decide +kernel), List.mem_of_getElem? (i := 955) (by decide +kernel)⟩
theorem lw_p39 : lw_okq (⟨"AmplifierDeskModel", "of", "(II)I"⟩, 24) := ⟨⟨by decide +kernel, by decide +kernel⟩, List.mem_of_getElem? (i := 847) (by decide +kernel), List.mem_of_getElem? (i := 958) (by decide +kernel), List.mem_of_getElem? (i := 959) (by decide +kernel)⟩
theorem lw_p40 : lw_okq (⟨"AmplifierDeskModel", "unlike", "(II)I"⟩, 24) := ⟨⟨by decide +kernel, by decide +kernel⟩, List.mem_of_getElem? (i := 847) (by decide +kernel), List.mem_of_getElem? (i := 962) (by decide +kernel), List.mem_of_getElem? (i := 963) (by decide +kernel)⟩
theorem lw_p41 : lw_okq (⟨"AmplifierDeskModel", "reason", "(I)I"⟩, 24) := ⟨⟨by decide +kernel, by decide +kernel⟩, List.mem_of_getElem? (i := 847) (by decide +kernel), List.mem_of_getElem? (i := 969) (by decide +kernel), List.mem_of_getElem? (i := 970) (by decide +kernel)⟩
theorem lw_p42 : lw_okq (⟨"AmplifierDeskModel", "solve", "(II)Z"⟩, 24) := ⟨⟨by decide +kernel, by decide +kernel⟩, List.mem_of_getElem? (i := 847) (by decide +kernel), List.mem_of_getElem? (i := 973) (by decide +kernel), List.mem_of_getElem? (i := 974) (by decide +kernel)⟩
theorem lw_p43 : lw_okq (⟨"AmplifierDeskModel", "layRules", "(II)V"⟩, 24) := ⟨⟨by decide +kernel, by decide +kernel⟩, List.mem_of_getElem? (i := 847) (by decide +kernel), List.mem_of_getElem? (i := 977) (by decide +kernel), List.mem_of_getElem? (i := 978) (by decide +kernel)⟩
theorem lw_p44 : lw_okq (⟨"AmplifierDeskModel", "layUnknowns", "()V"⟩, 24) := ⟨⟨by decide +kernel, by decide +kernel⟩, List.mem_of_getElem? (i := 847) (by decide +kernel), List.mem_of_getElem? (i := 981) (by decide +kernel), List.mem_of_getElem? (i := 982) (by decide +kernel)⟩
theorem lw_p45 : lw_okq (⟨"AmplifierDeskModel", "isFree", "(I)Z"⟩, 24) := ⟨⟨by decide +kernel, by decide +kernel⟩, List.mem_of_getElem? (i := 847) (by decide +kernel), List.mem_of_getElem? (i := 985) (by decide +kernel), List.mem_of_getElem? (i := 986) (by decide +kernel)⟩
theorem lw_p46 : lw_okq (⟨"AmplifierDeskModel", "isUsed", "(I)Z"⟩, 24) := ⟨⟨by decide +kernel, by decide +kernel⟩, List.mem_of_getElem? (i := 847) (by decide +kernel), List.mem_of_getElem? (i := 989) (by decide +kernel), List.mem_of_getElem? (i := 990) (by decide +kernel)⟩
theorem lw_p47 : lw_okq (⟨"AmplifierDeskModel", "isAt", "(II)Z"⟩, 24) := ⟨⟨by decide +kernel, by decide +kernel⟩, List.mem_of_getElem? (i := 847) (by decide +kernel), List.mem_of_getElem? (i := 993) (by decide +kernel), List.mem_of_getElem? (i := 994) (by decide +kernel)⟩
def lw_privs_3 : List (MethodName × Nat) := [(⟨"AmplifierDesk", "requireImage", "(I)V"⟩, 6), (⟨"AmplifierDeskModel", "record", "()V"⟩, 24), (⟨"AmplifierDeskModel", "copy", "([II[II)V"⟩, 24), (⟨"AmplifierDeskModel", "settle", "()V"⟩, 24), (⟨"AmplifierDeskModel", "cases", "()I"⟩, 24), (⟨"AmplifierDeskModel", "amplifiers", "()I"⟩, 24), (⟨"AmplifierDeskModel", "is", "(II)Z"⟩, 24), (⟨"AmplifierDeskModel", "of", "(II)I"⟩, 24), (⟨"AmplifierDeskModel", "unlike", "(II)I"⟩, 24), (⟨"AmplifierDeskModel", "reason", "(I)I"⟩, 24), (⟨"AmplifierDeskModel", "solve", "(II)Z"⟩, 24), (⟨"AmplifierDeskModel", "layRules", "(II)V"⟩, 24), (⟨"AmplifierDeskModel", "layUnknowns", "()V"⟩, 24), (⟨"AmplifierDeskModel", "isFree", "(I)Z"⟩, 24), (⟨"AmplifierDeskModel", "isUsed", "(I)Z"⟩, 24), (⟨"AmplifierDeskModel", "isAt", "(II)Z"⟩, 24)]
theorem lw_r3 : ∀ q ∈ lw_privs_3, lw_okq q := List.forall_mem_cons.mpr ⟨lw_p32, List.forall_mem_cons.mpr ⟨lw_p33, List.forall_mem_cons.mpr ⟨lw_p34, List.forall_mem_cons.mpr ⟨lw_p35, List.forall_mem_cons.mpr ⟨lw_p36, List.forall_mem_cons.mpr ⟨lw_p37, List.forall_mem_cons.mpr ⟨lw_p38, List.forall_mem_cons.mpr ⟨lw_p39, List.forall_mem_cons.mpr ⟨lw_p40, List.forall_mem_cons.mpr ⟨lw_p41, List.forall_mem_cons.mpr ⟨lw_p42, List.forall_mem_cons.mpr ⟨lw_p43, List.forall_mem_cons.mpr ⟨lw_p44, List.forall_mem_cons.mpr ⟨lw_p45, List.forall_mem_cons.mpr ⟨lw_p46, List.forall_mem_cons.mpr ⟨lw_p47, fun _ h => absurd h List.not_mem_nil⟩⟩⟩⟩⟩⟩⟩⟩⟩⟩⟩⟩⟩⟩⟩⟩
theorem lw_p48 : lw_okq (⟨"AmplifierDeskModel", "sourceAt", "(I)I"⟩, 24) := ⟨⟨by decide +kernel, by decide +kernel⟩, List.mem_of_getElem? (i := 847) (by decide +kernel), List.mem_of_getElem? (i := 997) (by decide +kernel), List.mem_of_getElem? (i := 998) (by decide +kernel)⟩
theorem lw_p49 : lw_okq (⟨"AmplifierDeskModel", "isOutput", "(I)Z"⟩, 24) := ⟨⟨by decide +kernel, by decide +kernel⟩, List.mem_of_getElem? (i := 847) (by decide +kernel), List.mem_of_getElem? (i := 1001) (by decide +kernel), List.mem_of_getElem? (i := 1002) (by decide +kernel)⟩
theorem lw_p50 : lw_okq (⟨"AmplifierDeskModel", "currents", "(IZ)V"⟩, 24) := ⟨⟨by decide +kernel, by decide +kernel⟩, List.mem_of_getElem? (i := 847) (by decide +kernel), List.mem_of_getElem? (i := 1005) (by decide +kernel), List.mem_of_getElem? (i := 1006) (by decide +kernel)⟩
theorem lw_p51 : lw_okq (⟨"AmplifierDeskModel", "addTo", "(IJZ)V"⟩, 24) := ⟨⟨by decide +kernel, by decide +kernel⟩, List.mem_of_getElem? (i := 847) (by decide +kernel), List.mem_of_getElem? (i := 1009) (by decide +kernel), List.mem_of_getElem? (i := 1010) (by decide +kernel)⟩
theorem lw_p52 : lw_okq (⟨"AmplifierDeskModel", "amplifierRule", "(III)V"⟩, 24) := ⟨⟨by decide +kernel, by decide +kernel⟩, List.mem_of_getElem? (i := 847) (by decide +kernel), List.mem_of_getElem? (i := 1013) (by decide +kernel), List.mem_of_getElem? (i := 1014) (by decide +kernel)⟩
theorem lw_p53 : lw_okq (⟨"AmplifierDeskModel", "partOf", "(I)I"⟩, 24) := ⟨⟨by decide +kernel, by decide +kernel⟩, List.mem_of_getElem? (i := 847) (by decide +kernel), List.mem_of_getElem? (i := 1017) (by decide +kernel), List.mem_of_getElem? (i := 1018) (by decide +kernel)⟩
theorem lw_p54 : lw_okq (⟨"AmplifierDeskModel", "determinant", "(I)J"⟩, 24) := ⟨⟨by decide +kernel, by decide +kernel⟩, List.mem_of_getElem? (i := 847) (by decide +kernel), List.mem_of_getElem? (i := 1022) (by decide +kernel), List.mem_of_getElem? (i := 1023) (by decide +kernel)⟩
theorem lw_p55 : lw_okq (⟨"AmplifierDeskModel", "fault", "(II)I"⟩, 24) := ⟨⟨by decide +kernel, by decide +kernel⟩, List.mem_of_getElem? (i := 847) (by decide +kernel), List.mem_of_getElem? (i := 1026) (by decide +kernel), List.mem_of_getElem? (i := 1027) (by decide +kernel)⟩
theorem lw_p56 : lw_okq (⟨"AmplifierDeskModel", "input", "(I)J"⟩, 24) := ⟨⟨by decide +kernel, by decide +kernel⟩, List.mem_of_getElem? (i := 847) (by decide +kernel), List.mem_of_getElem? (i := 1030) (by decide +kernel), List.mem_of_getElem? (i := 1031) (by decide +kernel)⟩
theorem lw_p57 : lw_okq (⟨"AmplifierDeskModel", "isPart", "(I)Z"⟩, 24) := ⟨⟨by decide +kernel, by decide +kernel⟩, List.mem_of_getElem? (i := 847) (by decide +kernel), List.mem_of_getElem? (i := 1045) (by decide +kernel), List.mem_of_getElem? (i := 1046) (by decide +kernel)⟩
theorem lw_p58 : lw_okq (⟨"AmplifierDeskModel", "isValue", "(II)Z"⟩, 24) := ⟨⟨by decide +kernel, by decide +kernel⟩, List.mem_of_getElem? (i := 847) (by decide +kernel), List.mem_of_getElem? (i := 1049) (by decide +kernel), List.mem_of_getElem? (i := 1050) (by decide +kernel)⟩
theorem lw_p59 : lw_okq (⟨"AmplifierDeskModel", "takeOut", "(I)V"⟩, 24) := ⟨⟨by decide +kernel, by decide +kernel⟩, List.mem_of_getElem? (i := 847) (by decide +kernel), List.mem_of_getElem? (i := 1057) (by decide +kernel), List.mem_of_getElem? (i := 1058) (by decide +kernel)⟩
theorem lw_p60 : lw_okq (⟨"AmplifierDeskModel", "rightLength", "()I"⟩, 24) := ⟨⟨by decide +kernel, by decide +kernel⟩, List.mem_of_getElem? (i := 847) (by decide +kernel), List.mem_of_getElem? (i := 1089) (by decide +kernel), List.mem_of_getElem? (i := 1090) (by decide +kernel)⟩
theorem lw_p61 : lw_okq (⟨"AmplifierDeskModel", "takes", "(I)Z"⟩, 24) := ⟨⟨by decide +kernel, by decide +kernel⟩, List.mem_of_getElem? (i := 847) (by decide +kernel), List.mem_of_getElem? (i := 1093) (by decide +kernel), List.mem_of_getElem? (i := 1094) (by decide +kernel)⟩
theorem lw_p62 : lw_okq (⟨"AmplifierDeskModel", "isOver", "()Z"⟩, 24) := ⟨⟨by decide +kernel, by decide +kernel⟩, List.mem_of_getElem? (i := 847) (by decide +kernel), List.mem_of_getElem? (i := 1097) (by decide +kernel), List.mem_of_getElem? (i := 1098) (by decide +kernel)⟩
theorem lw_p63 : lw_okq (⟨"AmplifierDeskModel", "takesLetter", "(I)Z"⟩, 24) := ⟨⟨by decide +kernel, by decide +kernel⟩, List.mem_of_getElem? (i := 847) (by decide +kernel), List.mem_of_getElem? (i := 1101) (by decide +kernel), List.mem_of_getElem? (i := 1102) (by decide +kernel)⟩
def lw_privs_4 : List (MethodName × Nat) := [(⟨"AmplifierDeskModel", "sourceAt", "(I)I"⟩, 24), (⟨"AmplifierDeskModel", "isOutput", "(I)Z"⟩, 24), (⟨"AmplifierDeskModel", "currents", "(IZ)V"⟩, 24), (⟨"AmplifierDeskModel", "addTo", "(IJZ)V"⟩, 24), (⟨"AmplifierDeskModel", "amplifierRule", "(III)V"⟩, 24), (⟨"AmplifierDeskModel", "partOf", "(I)I"⟩, 24), (⟨"AmplifierDeskModel", "determinant", "(I)J"⟩, 24), (⟨"AmplifierDeskModel", "fault", "(II)I"⟩, 24), (⟨"AmplifierDeskModel", "input", "(I)J"⟩, 24), (⟨"AmplifierDeskModel", "isPart", "(I)Z"⟩, 24), (⟨"AmplifierDeskModel", "isValue", "(II)Z"⟩, 24), (⟨"AmplifierDeskModel", "takeOut", "(I)V"⟩, 24), (⟨"AmplifierDeskModel", "rightLength", "()I"⟩, 24), (⟨"AmplifierDeskModel", "takes", "(I)Z"⟩, 24), (⟨"AmplifierDeskModel", "isOver", "()Z"⟩, 24), (⟨"AmplifierDeskModel", "takesLetter", "(I)Z"⟩, 24)]
theorem lw_r4 : ∀ q ∈ lw_privs_4, lw_okq q := List.forall_mem_cons.mpr ⟨lw_p48, List.forall_mem_cons.mpr ⟨lw_p49, List.forall_mem_cons.mpr ⟨lw_p50, List.forall_mem_cons.mpr ⟨lw_p51, List.forall_mem_cons.mpr ⟨lw_p52, List.forall_mem_cons.mpr ⟨lw_p53, List.forall_mem_cons.mpr ⟨lw_p54, List.forall_mem_cons.mpr ⟨lw_p55, List.forall_mem_cons.mpr ⟨lw_p56, List.forall_mem_cons.mpr ⟨lw_p57, List.forall_mem_cons.mpr ⟨lw_p58, List.forall_mem_cons.mpr ⟨lw_p59, List.forall_mem_cons.mpr ⟨lw_p60, List.forall_mem_cons.mpr ⟨lw_p61, List.forall_mem_cons.mpr ⟨lw_p62, List.forall_mem_cons.mpr ⟨lw_p63, fun _ h => absurd h List.not_mem_nil⟩⟩⟩⟩⟩⟩⟩⟩⟩⟩⟩⟩⟩⟩⟩⟩
theorem lw_p64 : lw_okq (⟨"AmplifierDeskModel", "put", "(II)V"⟩, 24) := ⟨⟨by decide +kernel, by decide +kernel⟩, List.mem_of_getElem? (i := 847) (by decide +kernel), List.mem_of_getElem? (i := 1105) (by decide +kernel), List.mem_of_getElem? (i := 1106) (by decide +kernel)⟩
theorem lw_p65 : lw_okq (⟨"AmplifierDeskModel", "takesNode", "(III)Z"⟩, 24) := ⟨⟨by decide +kernel, by decide +kernel⟩, List.mem_of_getElem? (i := 847) (by decide +kernel), List.mem_of_getElem? (i := 1109) (by decide +kernel), List.mem_of_getElem? (i := 1110) (by decide +kernel)⟩
theorem lw_p66 : lw_okq (⟨"AmplifierDeskModel", "takesLast", "(I)Z"⟩, 24) := ⟨⟨by decide +kernel, by decide +kernel⟩, List.mem_of_getElem? (i := 847) (by decide +kernel), List.mem_of_getElem? (i := 1113) (by decide +kernel), List.mem_of_getElem? (i := 1114) (by decide +kernel)⟩
theorem lw_p67 : lw_okq (⟨"AmplifierDeskModel", "takesValue", "(I)Z"⟩, 24) := ⟨⟨by decide +kernel, by decide +kernel⟩, List.mem_of_getElem? (i := 847) (by decide +kernel), List.mem_of_getElem? (i := 1117) (by decide +kernel), List.mem_of_getElem? (i := 1118) (by decide +kernel)⟩
theorem lw_p68 : lw_okq (⟨"AmplifierDeskModel", "canBe", "(I)Z"⟩, 24) := ⟨⟨by decide +kernel, by decide +kernel⟩, List.mem_of_getElem? (i := 847) (by decide +kernel), List.mem_of_getElem? (i := 1125) (by decide +kernel), List.mem_of_getElem? (i := 1126) (by decide +kernel)⟩
theorem lw_p69 : lw_okq (⟨"AmplifierDeskModel", "fits", "()Z"⟩, 24) := ⟨⟨by decide +kernel, by decide +kernel⟩, List.mem_of_getElem? (i := 847) (by decide +kernel), List.mem_of_getElem? (i := 1129) (by decide +kernel), List.mem_of_getElem? (i := 1130) (by decide +kernel)⟩
theorem lw_p70 : lw_okq (⟨"AmplifierDeskModel", "present", "(II)J"⟩, 24) := ⟨⟨by decide +kernel, by decide +kernel⟩, List.mem_of_getElem? (i := 847) (by decide +kernel), List.mem_of_getElem? (i := 1140) (by decide +kernel), List.mem_of_getElem? (i := 1141) (by decide +kernel)⟩
theorem lw_p71 : lw_okq (⟨"AmplifierDeskModel", "voltageNow", "(III)J"⟩, 24) := ⟨⟨by decide +kernel, by decide +kernel⟩, List.mem_of_getElem? (i := 847) (by decide +kernel), List.mem_of_getElem? (i := 1144) (by decide +kernel), List.mem_of_getElem? (i := 1145) (by decide +kernel)⟩
theorem lw_p72 : lw_okq (⟨"AmplifierDeskModel", "reduced", "(JI)J"⟩, 24) := ⟨⟨by decide +kernel, by decide +kernel⟩, List.mem_of_getElem? (i := 847) (by decide +kernel), List.mem_of_getElem? (i := 1148) (by decide +kernel), List.mem_of_getElem? (i := 1149) (by decide +kernel)⟩
theorem lw_p73 : lw_okq (⟨"AmplifierDeskModel", "amplifierNow", "(II)I"⟩, 24) := ⟨⟨by decide +kernel, by decide +kernel⟩, List.mem_of_getElem? (i := 847) (by decide +kernel), List.mem_of_getElem? (i := 1163) (by decide +kernel), List.mem_of_getElem? (i := 1164) (by decide +kernel)⟩
theorem lw_p74 : lw_okq (⟨"AmplifierDeskModel", "signNow", "(I)I"⟩, 24) := ⟨⟨by decide +kernel, by decide +kernel⟩, List.mem_of_getElem? (i := 847) (by decide +kernel), List.mem_of_getElem? (i := 1167) (by decide +kernel), List.mem_of_getElem? (i := 1168) (by decide +kernel)⟩
theorem lw_p75 : lw_okq (⟨"AmplifierDeskModel", "isCase", "(I)Z"⟩, 24) := ⟨⟨by decide +kernel, by decide +kernel⟩, List.mem_of_getElem? (i := 847) (by decide +kernel), List.mem_of_getElem? (i := 1175) (by decide +kernel), List.mem_of_getElem? (i := 1176) (by decide +kernel)⟩
theorem lw_p76 : lw_okq (⟨"AmplifierDeskModel", "concernedNow", "(I)I"⟩, 24) := ⟨⟨by decide +kernel, by decide +kernel⟩, List.mem_of_getElem? (i := 847) (by decide +kernel), List.mem_of_getElem? (i := 1183) (by decide +kernel), List.mem_of_getElem? (i := 1184) (by decide +kernel)⟩
theorem lw_p77 : lw_okq (⟨"AmplifierDeskModel", "tripNow", "(II)I"⟩, 24) := ⟨⟨by decide +kernel, by decide +kernel⟩, List.mem_of_getElem? (i := 847) (by decide +kernel), List.mem_of_getElem? (i := 1195) (by decide +kernel), List.mem_of_getElem? (i := 1196) (by decide +kernel)⟩
theorem lw_p78 : lw_okq (⟨"AmplifierDeskModel", "counted", "(I)I"⟩, 24) := ⟨⟨by decide +kernel, by decide +kernel⟩, List.mem_of_getElem? (i := 847) (by decide +kernel), List.mem_of_getElem? (i := 1211) (by decide +kernel), List.mem_of_getElem? (i := 1212) (by decide +kernel)⟩
theorem lw_p79 : lw_okq (⟨"AmplifierDeskModel", "casesThat", "(Z)I"⟩, 24) := ⟨⟨by decide +kernel, by decide +kernel⟩, List.mem_of_getElem? (i := 847) (by decide +kernel), List.mem_of_getElem? (i := 1215) (by decide +kernel), List.mem_of_getElem? (i := 1216) (by decide +kernel)⟩
def lw_privs_5 : List (MethodName × Nat) := [(⟨"AmplifierDeskModel", "put", "(II)V"⟩, 24), (⟨"AmplifierDeskModel", "takesNode", "(III)Z"⟩, 24), (⟨"AmplifierDeskModel", "takesLast", "(I)Z"⟩, 24), (⟨"AmplifierDeskModel", "takesValue", "(I)Z"⟩, 24), (⟨"AmplifierDeskModel", "canBe", "(I)Z"⟩, 24), (⟨"AmplifierDeskModel", "fits", "()Z"⟩, 24), (⟨"AmplifierDeskModel", "present", "(II)J"⟩, 24), (⟨"AmplifierDeskModel", "voltageNow", "(III)J"⟩, 24), (⟨"AmplifierDeskModel", "reduced", "(JI)J"⟩, 24), (⟨"AmplifierDeskModel", "amplifierNow", "(II)I"⟩, 24), (⟨"AmplifierDeskModel", "signNow", "(I)I"⟩, 24), (⟨"AmplifierDeskModel", "isCase", "(I)Z"⟩, 24), (⟨"AmplifierDeskModel", "concernedNow", "(I)I"⟩, 24), (⟨"AmplifierDeskModel", "tripNow", "(II)I"⟩, 24), (⟨"AmplifierDeskModel", "counted", "(I)I"⟩, 24), (⟨"AmplifierDeskModel", "casesThat", "(Z)I"⟩, 24)]
theorem lw_r5 : ∀ q ∈ lw_privs_5, lw_okq q := List.forall_mem_cons.mpr ⟨lw_p64, List.forall_mem_cons.mpr ⟨lw_p65, List.forall_mem_cons.mpr ⟨lw_p66, List.forall_mem_cons.mpr ⟨lw_p67, List.forall_mem_cons.mpr ⟨lw_p68, List.forall_mem_cons.mpr ⟨lw_p69, List.forall_mem_cons.mpr ⟨lw_p70, List.forall_mem_cons.mpr ⟨lw_p71, List.forall_mem_cons.mpr ⟨lw_p72, List.forall_mem_cons.mpr ⟨lw_p73, List.forall_mem_cons.mpr ⟨lw_p74, List.forall_mem_cons.mpr ⟨lw_p75, List.forall_mem_cons.mpr ⟨lw_p76, List.forall_mem_cons.mpr ⟨lw_p77, List.forall_mem_cons.mpr ⟨lw_p78, List.forall_mem_cons.mpr ⟨lw_p79, fun _ h => absurd h List.not_mem_nil⟩⟩⟩⟩⟩⟩⟩⟩⟩⟩⟩⟩⟩⟩⟩⟩
theorem lw_p80 : lw_okq (⟨"AmplifierDeskModel", "usedNodes", "()I"⟩, 24) := ⟨⟨by decide +kernel, by decide +kernel⟩, List.mem_of_getElem? (i := 847) (by decide +kernel), List.mem_of_getElem? (i := 1219) (by decide +kernel), List.mem_of_getElem? (i := 1220) (by decide +kernel)⟩
theorem lw_p81 : lw_okq (⟨"AmplifierDeskModel", "meanNow", "()D"⟩, 24) := ⟨⟨by decide +kernel, by decide +kernel⟩, List.mem_of_getElem? (i := 847) (by decide +kernel), List.mem_of_getElem? (i := 1227) (by decide +kernel), List.mem_of_getElem? (i := 1228) (by decide +kernel)⟩
theorem lw_p82 : lw_okq (⟨"AmplifierDeskModel", "mix", "(J)V"⟩, 24) := ⟨⟨by decide +kernel, by decide +kernel⟩, List.mem_of_getElem? (i := 847) (by decide +kernel), List.mem_of_getElem? (i := 1236) (by decide +kernel), List.mem_of_getElem? (i := 1237) (by decide +kernel)⟩
def lw_privs_6 : List (MethodName × Nat) := [(⟨"AmplifierDeskModel", "usedNodes", "()I"⟩, 24), (⟨"AmplifierDeskModel", "meanNow", "()D"⟩, 24), (⟨"AmplifierDeskModel", "mix", "(J)V"⟩, 24)]
theorem lw_r6 : ∀ q ∈ lw_privs_6, lw_okq q := List.forall_mem_cons.mpr ⟨lw_p80, List.forall_mem_cons.mpr ⟨lw_p81, List.forall_mem_cons.mpr ⟨lw_p82, fun _ h => absurd h List.not_mem_nil⟩⟩⟩
def lw_privs : List (MethodName × Nat) := lw_privs_1 ++ (lw_privs_2 ++ (lw_privs_3 ++ (lw_privs_4 ++ (lw_privs_5 ++ (lw_privs_6)))))
def lw_tbl : List Cond := k2_sels lw_privs ++ tables_1
theorem lw_privs_ok : ∀ q ∈ lw_privs, lw_okq q := by
  show ∀ q ∈ lw_privs_1 ++ (lw_privs_2 ++ (lw_privs_3 ++ (lw_privs_4 ++ (lw_privs_5 ++ (lw_privs_6))))), lw_okq q
  exact List.forall_mem_append.mpr ⟨lw_r1, List.forall_mem_append.mpr ⟨lw_r2, List.forall_mem_append.mpr ⟨lw_r3, List.forall_mem_append.mpr ⟨lw_r4, List.forall_mem_append.mpr ⟨lw_r5, lw_r6⟩⟩⟩⟩⟩
/-- the streams that the claim lets the run draw from -/
abbrev lw_cs : List Choice := [Jvm.Choice.named "NaN.bits"]
theorem lw_bits : nanBits ∈ lw_cs := by first | decide | exact List.mem_cons_self | simp [lw_cs, nanBits]
-- ===== end of PART A; then your names; then what follows =====
end
section
/-- an array of arrays: the word of the tables (wanting in the printed names) -/
def va_AOA (t : FieldType) (U : State) : Prop := (Cond.arrayOver (.array t)).before #[] U = true
theorem va_AOA.use {t : FieldType} {A : Array Value} {U : State} (h : va_AOA t U) : (Cond.arrayOver (.array t)).before A U = true := h
/-! ===== BEGIN words of one list among another's, by their places ===== -/
theorem goodIn_r {big : List Cond} (ws : List Cond) (ps : List Nat) (hp : ws = ps.filterMap (fun i => big[i]?)) (h : ws.all goodWord = true) : GoodIn big ws := by
  intro w hw
  have h1 := List.all_eq_true.mp h w hw
  rw [hp] at hw
  obtain ⟨i, -, hi⟩ := List.mem_filterMap.mp hw
  have hm : w ∈ big := by first | exact List.mem_of_getElem? hi | exact List.getElem?_mem hi
  exact ⟨hm, good_of_word h1⟩
theorem goodIn_app {big a b : List Cond} (ha : GoodIn big a) (hb : GoodIn big b) : GoodIn big (a ++ b) := fun w h => (List.mem_append.mp h).elim (ha w) (hb w)
theorem goodIn_ca {big a b : List Cond} {c : Cond} (ha : GoodIn big (c :: a)) (hb : GoodIn big b) : GoodIn big (c :: (a ++ b)) := fun w h => (List.mem_cons.mp h).elim (fun e => ha w (List.mem_cons.mpr (Or.inl e))) (fun h => (List.mem_append.mp h).elim (fun h => ha w (List.mem_cons.mpr (Or.inr h))) (hb w))
theorem goodIn_sub {big ws : List Cond} (hm : ∀ w ∈ ws, w ∈ big) (h : ws.all goodWord = true) : GoodIn big ws := fun w hw => ⟨hm w hw, good_of_word (List.all_eq_true.mp h w hw)⟩
/-! ===== END ===== -/

/-! ===== BEGIN new T[n][m]: the outer array a place, the inner ones among the pooled ===== -/
/-- f, but v at every address of l -/
def vr_up {α : Type} (f : Nat → α) (l : List Nat) (v : α) : Nat → α := fun a => if a ∈ l then v else f a
theorem vr_up_in {α : Type} {f : Nat → α} {l : List Nat} {v : α} {a : Nat} (h : a ∈ l) : vr_up f l v a = v := if_pos h
theorem vr_up_ne {α : Type} {f : Nat → α} {l : List Nat} {v : α} {a : Nat} (h : a ∉ l) : vr_up f l v a = f a := if_neg h
theorem vr_rows {L l : List Nat} {f : Nat → va_E} {e : va_E} (h : ∀ a, a ∈ l → a ∉ L) : va_pl L f ++ l.map (fun a => (a, e)) = va_pl (L ++ l) (vr_up f l e) := by
  unfold va_pl
  rw [List.map_append]
  congr 1
  · apply List.map_congr_left
    intro a ha
    rw [vr_up_ne (fun q => h a q ha)]
  · apply List.map_congr_left
    intro a ha
    rw [vr_up_in ha]
theorem vr_lay {X rows : va_W} {x : Nat × va_E} {pl : va_W} {D : va_G} {cl : List vw_C} {H : Heap} (hP : va_P D cl (((X ++ pl) ++ [x]) ++ rows) H) : va_P D cl ((X ++ [x]) ++ (pl ++ rows)) H := by
  rw [List.append_assoc (X ++ pl)] at hP
  have h := va_P.swap hP
  rw [← List.append_assoc X] at h
  have h2 := va_P.swap h
  rw [List.append_assoc (X ++ [x])] at h2
  exact h2
theorem vr_layD {X rows : va_W} {x : Nat × va_E} {pl : va_W} {A : Nat → Prop} (hD : va_D A (((X ++ pl) ++ [x]) ++ rows)) : va_D A ((X ++ [x]) ++ (pl ++ rows)) := by
  rw [List.append_assoc (X ++ pl)] at hD
  have h := va_D.swap hD
  rw [← List.append_assoc X] at h
  have h2 := va_D.swap h
  rw [List.append_assoc (X ++ [x])] at h2
  exact h2
theorem vr_outer (c : ClassId) (N h0 : Nat) : ∀ i : Nat, Jvm.Free.Multi.outerC c N h0 i = arrV c N (fun j => va_rf (if j < i then some (h0 + 1 + j) else none))
  | 0 => by
    show ({ cls := c, slots := Array.replicate N .null, vm := .none } : Cell) = _
    rw [arrV_new]
    refine congrArg (arrV c N) (funext fun j => ?_)
    simp [va_rf]
  | i + 1 => by
    show (Jvm.Free.Multi.outerC c N h0 i).setSlot i (.ref (h0 + 1 + i)) = _
    rw [vr_outer c N h0 i, arrV_store]
    refine congrArg (arrV c N) (funext fun j => ?_)
    by_cases e : j = i
    · subst e
      simp [updV, va_rf]
    · by_cases h : j < i
      · simp [updV, e, h, Nat.lt_succ_of_lt h]
      · simp [updV, e, h, show ¬ j < i + 1 by omega]
section VGM
variable {p : Program} {l : Launch} {e : Env} {R : Room} {s : State} {m : MethodId} {args : Array Value} {below : List Frame} {meth : Method} {c : Code} {H : Heap} {locs : List Loc} {cells slots : Nat} {Q : State → Prop}
variable {cc : ByteArray} {pc : Nat} {ls : Array Slot} {rest : List Value} {D : va_G} {cl : List vw_C} {A : Nat → Prop} {a : Nat} {tys : List (ClassId × FieldType)} {ws : va_W} {H0 : Heap}
theorem va_mna {X : va_W} {L : List Nat} {f : Nat → va_E} {cc : ByteArray} (hexec : p.tables.exec = Jvm.exec) (hb : c.code = cc) {own : String} {index : Nat} {ty : FieldType} {cy : ClassId} (hown : s.vm.findClass own = some m.cls) (hclink : (Cond.classLink own index ("[" ++ (FieldType.array ty).toString)).before args s = true) (hover : va_AOA ty s) (harr : (Cond.arrayClass ty).before args s = true) (hcy : s.vm.findClass (FieldType.array ty).toString = some cy)
    (hK : va_K D cl tys s) (hP : va_P D cl (X ++ va_pl L f) H) (hD : va_D A (X ++ va_pl L f)) (hS : va_S A H0 H locs) (hA : ∀ q, H0.size ≤ q → A q) {n k : Int32} {N' K' : Nat} {z : vp_A} (hn : ¬ n < 0) (hk : ¬ k < 0) (hN : n.toNatClampNeg = N') (hM : k.toNatClampNeg = K')
    (hb1 : N' * 4 ≤ 536870912) (hb2 : K' * componentBytes ty ≤ 536870912) (hb3 : K' ≤ 536870912) (hdf : fits ty (defaultValue ty) = true) (hdd : (defaultValue ty).isDefault = true) (hcells : cells + (1 + N') ≤ R.cells) (hslots : slots + (N' + N' * K') ≤ R.slots) (hz : ∀ c : ClassId, Jvm.Free.Multi.innerC c K' (defaultValue ty) = vp_cell c z) (hdg : decode cc pc = .ok (.multianewarray index 2, 4))
    (kk : ∀ (q : Nat) (r : Nat → Nat) (cA : ClassId) (H1 : Heap), (∀ i j : Nat, i < N' → j < N' → r i = r j → i = j) → (∀ i : Nat, i < N' → r i ∉ L) → va_K D cl (tys ++ [(cA, .array ty)]) s →
      va_P D cl ((X ++ [(q, .inl (cA, N', .inr (.inr (.inr (.inr (fun i => if i < N' then some (r i) else none))))))]) ++ va_pl (L ++ (List.range N').map r) (vr_up f ((List.range N').map r) (.inl (cy, z)))) H1 → va_D A ((X ++ [(q, .inl (cA, N', .inr (.inr (.inr (.inr (fun i => if i < N' then some (r i) else none))))))]) ++ va_pl (L ++ (List.range N').map r) (vr_up f ((List.range N').map r) (.inl (cy, z)))) → va_S A H0 H1 locs →
      W p l e R s m args below meth c H1 locs (cells + 1 + N') (slots + N' + N' * K') Q (F0 m (pc + 4) ls (.ref q :: rest))) : W p l e R s m args below meth c H locs cells slots Q (F0 m pc ls (.int k :: .int n :: rest)) := by
  subst hN
  subst hM
  intro T hT Xs
  obtain ⟨vm₁, cA, comp, -, fA, fC, hO, -, X', step⟩ := Xs.multianewarray2F hexec hown hclink (va_AOA.use hover) harr (g := F0 m pc ls (.int k :: .int n :: rest)) rfl (by rw [hb]; exact hdg) rfl hn hk hb1 hb2 hb3 hdf hdd hcells hslots
  have ec : some cy = some comp := hcy.symm.trans fC
  cases ec
  generalize hF : Jvm.Free.Multi.fill (T.setVm vm₁) cA cy n.toNatClampNeg k.toNatClampNeg (defaultValue ty) n.toNatClampNeg = F at X' step
  have hTh : (T.setVm vm₁).heap = H := hT
  obtain ⟨f1, f2, -, -⟩ := Jvm.Free.Multi.fill_facts (T.setVm vm₁) cA cy n.toNatClampNeg k.toNatClampNeg (defaultValue ty) n.toNatClampNeg
  rw [hF, hTh] at f1 f2
  have hold : ∀ x : Nat, x < H.size → F.heap[x]? = H[x]? := fun x hx => by
    have := Jvm.Free.Multi.fill_old (T.setVm vm₁) cA cy n.toNatClampNeg k.toNatClampNeg (defaultValue ty) (a := x) (by rw [hTh]; exact hx) n.toNatClampNeg
    rw [hF, hTh] at this
    exact this
  have hrow : ∀ j : Nat, j < n.toNatClampNeg → F.heap[H.size + 1 + j]? = some (vp_cell cy z) := fun j hj => by
    have := Jvm.Free.Multi.fill_inner (T.setVm vm₁) cA cy n.toNatClampNeg k.toNatClampNeg (defaultValue ty) n.toNatClampNeg j hj
    rw [hF, hTh, hz] at this
    exact this
  have hout : Jvm.Free.Multi.outerC cA n.toNatClampNeg H.size n.toNatClampNeg = vp_cell cA (n.toNatClampNeg, .inr (.inr (.inr (.inr (fun i => if i < n.toNatClampNeg then some (H.size + 1 + i) else none))))) := by
    rw [vp_cell_q]
    exact vr_outer cA n.toNatClampNeg H.size n.toNatClampNeg
  rw [hout] at f2
  have hlt : ∀ a, a ∈ L → a < H.size := fun a ha => by
    obtain ⟨k9, hk9⟩ := va_pl_get (X := X) (f := f) ha
    exact (hP k9 _ hk9).lt
  have hnl : ∀ i : Nat, i < n.toNatClampNeg → H.size + 1 + i ∉ L := fun i _ h => by
    have := hlt _ h
    omega
  have hnm : ∀ a, a ∈ (List.range n.toNatClampNeg).map (fun i => H.size + 1 + i) → a ∉ L := fun a ha h => by
    obtain ⟨i, -, rfl⟩ := List.mem_map.mp ha
    have := hlt _ h
    omega
  have hP0 : va_P D cl (X ++ va_pl L f) F.heap := hP.kept (fun k9 x hx => hold x.1 ((hP k9 x hx).lt))
  have hP1 : va_P D cl ((X ++ va_pl L f) ++ [(H.size, .inl (cA, n.toNatClampNeg, .inr (.inr (.inr (.inr (fun i => if i < n.toNatClampNeg then some (H.size + 1 + i) else none))))))]) F.heap := hP0.app (fun k9 x hx => by
    have h0 : k9 < 1 := (List.getElem?_eq_some_iff.mp hx).1
    rw [show k9 = 0 by omega] at hx
    cases hx
    exact f2)
  have hP2 : va_P D cl (((X ++ va_pl L f) ++ [(H.size, .inl (cA, n.toNatClampNeg, .inr (.inr (.inr (.inr (fun i => if i < n.toNatClampNeg then some (H.size + 1 + i) else none))))))]) ++ ((List.range n.toNatClampNeg).map (fun i => H.size + 1 + i)).map (fun a => (a, .inl (cy, z)))) F.heap := hP1.app (fun k9 x hx => by
    obtain ⟨a, ha, rfl⟩ := List.mem_map.mp (List.mem_of_getElem? hx)
    obtain ⟨i, hi, rfl⟩ := List.mem_map.mp ha
    exact hrow i (List.mem_range.mp hi))
  have hD2 : va_D A (((X ++ va_pl L f) ++ [(H.size, .inl (cA, n.toNatClampNeg, .inr (.inr (.inr (.inr (fun i => if i < n.toNatClampNeg then some (H.size + 1 + i) else none))))))]) ++ ((List.range n.toNatClampNeg).map (fun i => H.size + 1 + i)).map (fun a => (a, .inl (cy, z)))) := by
    have hD1 := hD.push (e := .inl (cA, n.toNatClampNeg, .inr (.inr (.inr (.inr (fun i => if i < n.toNatClampNeg then some (H.size + 1 + i) else none)))))) hP rfl (hA _ hS.1)
    generalize hW1 : (X ++ va_pl L f) ++ [(H.size, .inl (cA, n.toNatClampNeg, .inr (.inr (.inr (.inr (fun i => if i < n.toNatClampNeg then some (H.size + 1 + i) else none))))))] = W1 at hD1 hP1 ⊢
    have hle : ∀ (k9 : Nat) (x : Nat × va_E), W1[k9]? = some x → x.1 ≤ H.size := fun k9 x hx => by
      rw [← hW1] at hx
      by_cases hl : k9 < (X ++ va_pl L f).length
      · rw [List.getElem?_append_left hl] at hx
        exact Nat.le_of_lt ((hP k9 x hx).lt)
      · rw [List.getElem?_append_right (by omega)] at hx
        have h0 : k9 - (X ++ va_pl L f).length < 1 := (List.getElem?_eq_some_iff.mp hx).1
        rw [show k9 - (X ++ va_pl L f).length = 0 by omega] at hx
        cases hx
        exact Nat.le_refl _
    have hr : ∀ (k9 : Nat) (x : Nat × va_E), (((List.range n.toNatClampNeg).map (fun i => H.size + 1 + i)).map (fun a => ((a, .inl (cy, z)) : Nat × va_E)))[k9]? = some x → x.1 = H.size + 1 + k9 := fun k9 x hx => by
      rw [List.getElem?_map, List.getElem?_map] at hx
      by_cases h9 : k9 < n.toNatClampNeg
      · rw [List.getElem?_range h9] at hx
        cases hx
        rfl
      · have hn0 : (List.range n.toNatClampNeg)[k9]? = none := List.getElem?_eq_none (by rw [List.length_range]; omega)
        rw [hn0] at hx
        cases hx
    refine ⟨fun i j x y hi hj hxy => ?_, fun k9 x hx => ?_⟩
    · by_cases h1 : i < W1.length <;> by_cases h2 : j < W1.length
      · rw [List.getElem?_append_left h1] at hi
        rw [List.getElem?_append_left h2] at hj
        exact hD1.1 i j x y hi hj hxy
      · rw [List.getElem?_append_left h1] at hi
        rw [List.getElem?_append_right (by omega)] at hj
        have := hle _ _ hi
        have := hr _ _ hj
        omega
      · rw [List.getElem?_append_right (by omega)] at hi
        rw [List.getElem?_append_left h2] at hj
        have := hle _ _ hj
        have := hr _ _ hi
        omega
      · rw [List.getElem?_append_right (by omega)] at hi hj
        have := hr _ _ hi
        have := hr _ _ hj
        omega
    · by_cases h1 : k9 < W1.length
      · rw [List.getElem?_append_left h1] at hx
        exact hD1.2 k9 x hx
      · rw [List.getElem?_append_right (by omega)] at hx
        have := hr _ _ hx
        exact hA _ (by have := hS.1; omega)
  have hAr : ArrOfT s cA (.array ty) := fun N9 z9 => by
    obtain ⟨-, k9, hk9, cm9, hkk9⟩ := (hO 0 0 0).1
    exact ⟨(fun q hq => by cases hq), k9, hk9, cm9, hkk9⟩
  have hK2 : va_K D cl (tys ++ [(cA, .array ty)]) s := ⟨hK.1, fun k9 x hx => by
    by_cases hl : k9 < tys.length
    · rw [List.getElem?_append_left hl] at hx
      exact hK.2 k9 x hx
    · rw [List.getElem?_append_right (by omega)] at hx
      have h0 : k9 - tys.length < 1 := (List.getElem?_eq_some_iff.mp hx).1
      rw [show k9 - tys.length = 0 by omega] at hx
      cases hx
      exact ⟨hAr, fA⟩⟩
  obtain ⟨t, a1, b1⟩ := kk H.size (fun i => H.size + 1 + i) cA F.heap (fun i j _ _ h => by have h9 : H.size + 1 + i = H.size + 1 + j := h; omega) hnl hK2 (by rw [← vr_rows hnm]; exact vr_lay hP2) (by rw [← vr_rows hnm]; exact vr_layD hD2) ⟨by rw [f1]; have := hS.1; omega, fun x h1 h2 => (hold x (Nat.lt_of_lt_of_le h1 hS.1)).trans (hS.2.1 x h1 h2), hS.2.2⟩ F rfl X'
  refine ⟨t, step t ?_, b1⟩
  have e : T.heap.size = H.size := by rw [hT]
  rw [e]
  exact a1
end VGM
/-! ===== END ===== -/

/-! ===== BEGIN exceptions that leave a method, and their catching by the caller (launches without stack traces) ===== -/
section VXA
/-! The laws vx_back, vx_callV, vx_callS, vx_callSW, vx_throw0, vx_throwS follow proofs of the library, with one case more: JvmDerived/Free/Laws.lean (Back.of_free), Shelf42/LK1.lean (callV, callS), Shelf/KitTraced.lean (throwNew0V, throwNewS). -/
/-- where a method has thrown q: the class by its name, the cell, what was written, the world -/
def vx_T (XC : String → State → State → Prop) (st : State) (q : Addr) (t : State) (mc ms : Nat) (free : Addr → Prop) : Prop :=
  ∃ (E : String) (ce : Cell) (L : List Loc), XC E st t ∧ t.heap[q]? = some ce ∧ ce.vm = .none ∧ st.vm.findClass E = some ce.cls ∧ st.WarmedH t.vm ∧ st.sameButNew ({ t with vm := st.vm } : State) L mc ms ∧ ∀ z ∈ L, free z.base
def vx_Q (Qc : Array Value → State → Outcome → State → Prop) (XC : String → State → State → Prop) (mc ms : Nat) (free : Addr → Prop) : Array Value → State → Outcome → State → Prop := fun a st o t =>
  (Qc a st o t ∧ ∃ L, FrameEnd st o t L mc ms ∧ ∀ q ∈ L, free q.base) ∨ ∃ q, o = .threw q ∧ vx_T XC st q t mc ms free
/-- a callee that returns or throws -/
def vx_Met (l : Launch) (y : MethodName) (ws : List Cond) (rm : Room) (Pc : Array Value → State → Prop) (Qc : Array Value → State → Outcome → State → Prop) (XC : String → State → State → Prop) (mc ms : Nat) (free : Addr → Prop) : Prop :=
  MetFree l y (headSpec ws rm) Pc (fun _ _ _ _ _ => True) (vx_Q Qc XC mc ms free)
def vx_Post (XC : String → State → State → Prop) (mc ms : Nat) (free : Addr → Prop) : Pt → Array Value → Addr → Pt → Prop := fun A a q B =>
  ∃ (g : JFrame) (mk : MethodId) (t : State) (L : List Loc) (E : String) (ce : Cell), B.U.heap = t.heap ∧ B.U.vm = t.vm ∧ XC E (A.U.calling g mk a) t ∧ t.heap[q]? = some ce ∧ ce.vm = .none ∧ A.U.vm.findClass E = some ce.cls ∧ B.locs = A.locs ++ L ∧ (∀ z ∈ L, free z.base) ∧ B.cells = A.cells + mc ∧ B.slots = A.slots + ms
def vx_Back (l : Launch) (R : Room) (p : Program) (e : Env) (below : List Frame) (s : State) (sargs : Array Value) (y : MethodName) (len W9 : Nat)
    (Pre : Pt → Array Value → Prop) (Post : Pt → Array Value → Option Value → Pt → Prop) (PostX : Pt → Array Value → Addr → Pt → Prop) : Prop :=
  ∀ (m : MethodId) (meth : Method) (c : Code) (A : Pt) (g : JFrame) (ig : Instr) (mk : MethodId) (a : Array Value),
    Stand p l e R s m sargs below meth c A.U A.locs A.cells A.slots → g.method = m → g.locals.size = c.maxLocals → decode c.code g.pc = .ok (ig, len) →
    2 * g.monitorRoom + (g.stack.map fun v => v.category).sum ≤ W9 → A.U.methodNamed? y = some mk → Pre A a →
    (∃ (v : Option Value) (B : Pt), Stand p l e R s m sargs below meth c B.U B.locs B.cells B.slots ∧ Post A a v B ∧
      Steps p.tables e below (doInvoke e (A.U.setTop g) [] mk a).1 (B.U.setTop { g with pc := g.pc + len, stack := v.toList ++ g.stack })) ∨
    (∃ (q : Addr) (B : Pt), Stand p l e R s m sargs below meth c B.U B.locs B.cells B.slots ∧ PostX A a q B ∧
      Steps p.tables e below (doInvoke e (A.U.setTop g) [] mk a).1 ((B.U.setTop g).pushFrame (.throwing q)))
section Payer
variable {l : Launch} {R : Room} {p : Program} {e : Env} {below : List Frame} {s : State} {sargs : Array Value} {y : MethodName} {len W9 : Nat}
theorem vx_back {ws : List Cond} {rm : Room} {Pc : Array Value → State → Prop} {Qc : Array Value → State → Outcome → State → Prop} {XC : String → State → State → Prop} {mc ms : Nat} {free : Addr → Prop} {bytes : ByteArray} {maxL : Nat} {ret : Option FieldType}
    (hM : vx_Met l y ws rm Pc Qc XC mc ms free) (hblind : FrameBlind Pc) (hrc : rm.cells = mc) (hrs : rm.slots = ms)
    (hframes : rm.frames + 1 ≤ R.frames) (hlocals : W9 + (maxL + 11) + rm.locals ≤ R.locals)
    (hws : ∀ w ∈ ws, ∀ a' U, s.WarmedH U.vm → w.before a' U = true) (hcode : Cond.code y bytes maxL ret ∈ ws) (hinit : ∀ a' U, s.WarmedH U.vm → (Cond.initialized y.cls).before a' U = true) :
    vx_Back l R p e below s sargs y len W9 (PreOf R mc ms Pc) (PostOf Qc mc ms free) (vx_Post XC mc ms free) := by
  intro m meth c A g ig mk a X hg hsize hdg hW hn hp
  have h1 : (headSpec ws rm).pre.before a A.U = true := atoms_intro fun w hw => hws w hw _ _ X.warmed
  have h2 : (Cond.code y bytes maxL ret).before a A.U = true := hws _ hcode _ _ X.warmed
  have h3 : (Cond.initialized y.cls).before a A.U = true := hinit _ _ X.warmed
  have h4 : A.cells + (headSpec ws rm).room.cells ≤ R.cells := by rw [show (headSpec ws rm).room.cells = mc from hrc]; exact hp.1
  have h5 : A.slots + (headSpec ws rm).room.slots ≤ R.slots := by rw [show (headSpec ws rm).room.slots = ms from hrs]; exact hp.2.1
  have hPc : Pc a (A.U.calling g mk a) := hblind _ _ _ _ hp.2.2
  obtain ⟨U, Ls, c0, s0⟩ := A
  dsimp only [Pt.U, Pt.locs, Pt.cells, Pt.slots] at h1 h2 h3 h4 h5 X hn hPc ⊢
  obtain ⟨methY, cY, hmY, hcY, -, hlY, -, -, -, -⟩ := Cond.code_spec hn h2
  obtain ⟨kY, hkY, -⟩ := className_of_methodNamed hn
  have hinitY : kY.init = .initialized := Cond.initialized_spec (findClass_of_methodNamed hn) hkY h3
  have h : At U g.method c below := by rw [hg]; exact X.here
  have hlocals9 : W9 + (maxL + 11) + (headSpec ws rm).room.locals ≤ R.locals := hlocals
  have happ : (headSpec ws rm).appliesLoose y e.platform (U.calling g mk a) = true :=
    Spec.appliesLoose_calling (g := g) h hdg hn hkY hinitY
      (X.room_calling (g := g) (R' := (headSpec ws rm).room) hsize hmY hcY hframes (by rw [hlY]; omega) h4 h5) h1
  obtain ⟨mid, hmid⟩ := h.above
  have hfr : (U.setTop g).frames = (.java g :: mid) ++ below := by rw [State.frames_setTop' g h.top, hmid]; rfl
  obtain ⟨o, s₂, hsteps, -, hend, hq⟩ := Steps.callFree hM p X.admits X.cas X.clock (acts := []) hfr happ hPc trivial
  have hq' : vx_Q Qc XC mc ms free a (U.calling g mk a) o s₂ := hq
  rw [State.frames_setTop' g h.top] at hend
  obtain ⟨g₀, hg0⟩ := Option.isSome_iff_exists.mp h.top
  obtain ⟨r, hr⟩ := State.topJava?_eq_some.mp hg0
  have hr' : (({ U with heap := s₂.heap, slotsUsed := s₂.slotsUsed } : State).setVm s₂.vm).frames = .java g₀ :: r := hr
  rcases hq' with ⟨hqc, L, hfe, hL⟩ | ⟨q, rfl, E, ce, L, hx, hce, hcv, hcl, hW₂, hsm, hL⟩
  · obtain ⟨⟨v, rfl⟩, hW₂, e2, q2, q3, q4, q5, q6⟩ := id hfe
    have e3 : s₂ = ({ (U.calling g mk a).setFrames s₂.frames with heap := s₂.heap, slotsUsed := s₂.slotsUsed } : State).setVm s₂.vm := by
      have : s₂ = ({ s₂ with vm := (U.calling g mk a).vm } : State).setVm s₂.vm := rfl
      rw [e2] at this
      exact this
    obtain ⟨c₂, i₂, len₂, hc₂, hd₂, hf₂⟩ := hend
    have hW' : U.WarmedH s₂.vm := hW₂
    have hcc : c₂ = c := by
      have h1 : s₂.code? g.method = U.code? g.method := by
        rw [State.code?_eq, State.code?_eq, hW'.alike.method?]
      exact Option.some.inj (hc₂.symm.trans (h1.trans h.code))
    subst hcc
    have hlen : len₂ = len := by rw [hdg] at hd₂; cases hd₂; rfl
    subst hlen
    have hs₂ : s₂ = (({ U with heap := s₂.heap, slotsUsed := s₂.slotsUsed } : State).setVm s₂.vm).setTop { g with pc := g.pc + len₂, stack := v.toList ++ g.stack } := by
      refine e3.trans ?_
      rw [hf₂, State.calling_eq h.top, State.setFrames_setFrames, State.setTop_of_frames _ hr', hr]
      rfl
    have hsame : U.sameButNew ({ U with heap := s₂.heap, slotsUsed := s₂.slotsUsed } : State) L mc ms := by
      refine ⟨?_, q2, q3, q4, q5, q6⟩
      obtain ⟨t, ht, -⟩ := State.frames_cons hr
      show ({ U with heap := s₂.heap, slotsUsed := s₂.slotsUsed } : State) = { U.setFrames U.frames with heap := s₂.heap, slotsUsed := s₂.slotsUsed }
      rw [State.setFrames_self ht]
    subst hg
    refine Or.inl ⟨v, ⟨(({ U with heap := s₂.heap, slotsUsed := s₂.slotsUsed } : State).setVm s₂.vm), Ls ++ L, c0 + mc, s0 + ms⟩,
      ⟨X.admits, X.cas, X.clock, X.frames, X.room, X.hears, X.method, X.code, (X.here.setHeapUsed s₂.heap s₂.slotsUsed).setVm hW'.alike, X.tail, State.WarmedH.trans X.warmed hW', X.limits, X.bytes, X.same.trans (hsame.setVm s.vm)⟩,
      ⟨g, mk, s₂, L, rfl, rfl, hqc, rfl, hL, rfl, rfl⟩, ?_⟩
    show Steps p.tables e below _ ((({ U with heap := s₂.heap, slotsUsed := s₂.slotsUsed } : State).setVm s₂.vm).setTop { g with pc := g.pc + len₂, stack := v.toList ++ g.stack })
    rw [← hs₂]
    exact hsteps
  · obtain ⟨e2, q2, q3, q4, q5, q6⟩ := id hsm
    have e3 : s₂ = ({ (U.calling g mk a).setFrames s₂.frames with heap := s₂.heap, slotsUsed := s₂.slotsUsed } : State).setVm s₂.vm := by
      have : s₂ = ({ s₂ with vm := (U.calling g mk a).vm } : State).setVm s₂.vm := rfl
      rw [e2] at this
      exact this
    have hf₂ : s₂.frames = .throwing q :: .java g :: U.frames.tail := hend
    have hW' : U.WarmedH s₂.vm := hW₂
    have hs₂ : s₂ = ((({ U with heap := s₂.heap, slotsUsed := s₂.slotsUsed } : State).setVm s₂.vm).setTop g).pushFrame (.throwing q) := by
      refine e3.trans ?_
      rw [hf₂, State.calling_eq h.top, State.setFrames_setFrames, State.pushFrame, State.frames_setTop _ hr', State.setTop_of_frames _ hr', State.setFrames_setFrames, hr]
      rfl
    have hsame : U.sameButNew ({ U with heap := s₂.heap, slotsUsed := s₂.slotsUsed } : State) L mc ms := by
      refine ⟨?_, q2, q3, q4, q5, q6⟩
      obtain ⟨t, ht, -⟩ := State.frames_cons hr
      show ({ U with heap := s₂.heap, slotsUsed := s₂.slotsUsed } : State) = { U.setFrames U.frames with heap := s₂.heap, slotsUsed := s₂.slotsUsed }
      rw [State.setFrames_self ht]
    subst hg
    refine Or.inr ⟨q, ⟨(({ U with heap := s₂.heap, slotsUsed := s₂.slotsUsed } : State).setVm s₂.vm), Ls ++ L, c0 + mc, s0 + ms⟩,
      ⟨X.admits, X.cas, X.clock, X.frames, X.room, X.hears, X.method, X.code, (X.here.setHeapUsed s₂.heap s₂.slotsUsed).setVm hW'.alike, X.tail, State.WarmedH.trans X.warmed hW', X.limits, X.bytes, X.same.trans (hsame.setVm s.vm)⟩,
      ⟨g, mk, s₂, L, E, ce, rfl, rfl, hx, hce, hcv, hcl, rfl, hL, rfl, rfl⟩, ?_⟩
    show Steps p.tables e below _ (((({ U with heap := s₂.heap, slotsUsed := s₂.slotsUsed } : State).setVm s₂.vm).setTop g).pushFrame (.throwing q))
    rw [← hs₂]
    exact hsteps
end Payer
section Calls
variable {p : Program} {l : Launch} {e : Env} {R : Room} {s : State} {m : MethodId} {args : Array Value} {below : List Frame} {meth : Method} {c : Code} {T : State} {locs : List Loc} {cells slots : Nat}
theorem vx_callV (X : Stand p l e R s m args below meth c T locs cells slots) (hexec : p.tables.exec = Jvm.exec) {own C : String} {index : Nat} {y : MethodName} {bytes : ByteArray} {maxL : Nat} {ret : Option FieldType}
    (hown : s.vm.findClass own = some m.cls) (hlink : (Cond.methodLink own index y).before args s = true) (hinst : (Cond.instanceMethod y).before args s = true) (hsel : (Cond.selects C y y).before args s = true)
    (hcode : (Cond.code y bytes maxL ret).before args s = true) (hy : y.cls ≠ "java/lang/invoke/MethodHandle" ∧ y.cls ≠ "java/lang/invoke/VarHandle")
    {W9 : Nat} {Pre : Pt → Array Value → Prop} {Post : Pt → Array Value → Option Value → Pt → Prop} {PostX : Pt → Array Value → Addr → Pt → Prop} (hK : vx_Back l R p e below s args y 3 W9 Pre Post PostX)
    {b : Addr} {cellB : Cell} (hcell : T.heap[b]? = some cellB) (hobj : cellB.vm.isStatics = false) (hcls : s.vm.findClass C = some cellB.cls)
    {g : JFrame} (hg : g.method = m) (hsize : g.locals.size = c.maxLocals) {argsL rest : List Value} (hlen : ∀ sig, parseMethodDescriptor y.desc = some sig → argsL.length = sig.parameters.length)
    (hstack : g.stack = argsL.reverse ++ .ref b :: rest) (hW : 2 * g.monitorRoom + (rest.map fun v => v.category).sum ≤ W9) (hdg : decode c.code g.pc = .ok (.invokevirtual index, 3))
    (hpre : ∀ vm₁, s.WarmedH vm₁ → Pre ⟨T.setVm vm₁, locs, cells, slots⟩ (Value.ref b :: argsL).toArray) :
    (∃ (v : Option Value) (vm₁ : Vm) (B : Pt), s.WarmedH vm₁ ∧ Stand p l e R s m args below meth c B.U B.locs B.cells B.slots ∧ Post ⟨T.setVm vm₁, locs, cells, slots⟩ (Value.ref b :: argsL).toArray v B ∧
      ∀ target, Steps p.tables e below (B.U.setTop { g with pc := g.pc + 3, stack := v.toList ++ rest }) target → Steps p.tables e below (T.setTop g) target) ∨
    (∃ (q : Addr) (vm₁ : Vm) (B : Pt), s.WarmedH vm₁ ∧ Stand p l e R s m args below meth c B.U B.locs B.cells B.slots ∧ PostX ⟨T.setVm vm₁, locs, cells, slots⟩ (Value.ref b :: argsL).toArray q B ∧
      Steps p.tables e below (T.setTop g) ((B.U.setTop { g with stack := rest }).pushFrame (.throwing q))) := by
  obtain ⟨mk, methM, hnamed, hmethM, hstM, habM⟩ := Cond.instanceMethod_spec hinst
  obtain ⟨methM', cM, hmethM', -, -, -, -, -, -, hsigM⟩ := Cond.code_spec hnamed hcode
  cases hmethM.symm.trans hmethM'
  obtain ⟨c2, r2, m2, q1, q2, q3, q4, kP, hkP, hkPi⟩ := Cond.selects_spec hsel
  cases hcls.symm.trans q1
  cases (State.methodFound?_of_named hnamed hy).symm.trans q2
  cases hnamed.symm.trans q3
  have hselP : selectMethod e.platform s.vm cellB.cls mk = .method mk := by rw [Launch.admits_selectMethod X.admits]; exact q4
  obtain ⟨vm₁, X₁, hstep₁⟩ := X.invokevirtual hexec hown hlink hnamed hmethM hstM hkP hkPi hy (a := b) (cell := cellB) hcell
    (fun z h => by rw [h] at hobj; cases hobj) hselP hmethM habM hkP hkPi (g := g) hg (argsL := argsL) (rest := rest) (hlen _ hsigM) hstack hdg
  rcases hK m meth c ⟨T.setVm vm₁, locs, cells, slots⟩ { g with stack := rest } (.invokevirtual index) mk (Value.ref b :: argsL).toArray X₁ hg hsize hdg hW (X₁.named hnamed) (hpre vm₁ X₁.warmed) with ⟨v, B, X', hpost, hsteps⟩ | ⟨q, B, X', hpost, hsteps⟩
  · exact Or.inl ⟨v, vm₁, B, X₁.warmed, X', hpost, fun target h => hstep₁ _ fun acts => by rw [doInvoke_state]; exact hsteps.trans h⟩
  · exact Or.inr ⟨q, vm₁, B, X₁.warmed, X', hpost, hstep₁ _ fun acts => by rw [doInvoke_state]; exact hsteps⟩
theorem vx_callS (X : Stand p l e R s m args below meth c T locs cells slots) (hexec : p.tables.exec = Jvm.exec) {own : String} {index : Nat} {y : MethodName} {bytes : ByteArray} {maxL : Nat} {ret : Option FieldType}
    (hown : s.vm.findClass own = some m.cls) (hlink : (Cond.methodLink own index y).before args s = true) (hstat : (Cond.static y).before args s = true) (hinit : (Cond.initialized y.cls).before args s = true)
    (hcode : (Cond.code y bytes maxL ret).before args s = true) (hy : y.cls ≠ "java/lang/invoke/MethodHandle" ∧ y.cls ≠ "java/lang/invoke/VarHandle")
    {W9 : Nat} {Pre : Pt → Array Value → Prop} {Post : Pt → Array Value → Option Value → Pt → Prop} {PostX : Pt → Array Value → Addr → Pt → Prop} (hK : vx_Back l R p e below s args y 3 W9 Pre Post PostX)
    {g : JFrame} (hg : g.method = m) (hsize : g.locals.size = c.maxLocals) {argsL rest : List Value} (hlen : ∀ sig, parseMethodDescriptor y.desc = some sig → argsL.length = sig.parameters.length)
    (hstack : g.stack = argsL.reverse ++ rest) (hW : 2 * g.monitorRoom + (rest.map fun v => v.category).sum ≤ W9) (hdg : decode c.code g.pc = .ok (.invokestatic index, 3))
    (hpre : ∀ vm₁, s.WarmedH vm₁ → Pre ⟨T.setVm vm₁, locs, cells, slots⟩ argsL.toArray) :
    (∃ (v : Option Value) (vm₁ : Vm) (B : Pt), s.WarmedH vm₁ ∧ Stand p l e R s m args below meth c B.U B.locs B.cells B.slots ∧ Post ⟨T.setVm vm₁, locs, cells, slots⟩ argsL.toArray v B ∧
      ∀ target, Steps p.tables e below (B.U.setTop { g with pc := g.pc + 3, stack := v.toList ++ rest }) target → Steps p.tables e below (T.setTop g) target) ∨
    (∃ (q : Addr) (vm₁ : Vm) (B : Pt), s.WarmedH vm₁ ∧ Stand p l e R s m args below meth c B.U B.locs B.cells B.slots ∧ PostX ⟨T.setVm vm₁, locs, cells, slots⟩ argsL.toArray q B ∧
      Steps p.tables e below (T.setTop g) ((B.U.setTop { g with stack := rest }).pushFrame (.throwing q))) := by
  obtain ⟨mk, hnamed⟩ := Cond.code_named hcode
  obtain ⟨methM, cM, hmethM, -, -, -, -, -, -, hsigM⟩ := Cond.code_spec hnamed hcode
  have hstatic : methM.isStatic = true := Cond.static_spec hnamed hmethM hstat
  obtain ⟨kP, hkP, -⟩ := className_of_methodNamed hnamed
  have hinitP : kP.init = .initialized := Cond.initialized_spec (findClass_of_methodNamed hnamed) hkP hinit
  obtain ⟨vm₁, X₁, hstep₁⟩ := X.invokestatic hexec hown hlink hnamed hmethM hstatic hkP hinitP hy (g := g) hg (argsL := argsL) (rest := rest) (hlen _ hsigM) hstack hdg
  rcases hK m meth c ⟨T.setVm vm₁, locs, cells, slots⟩ { g with stack := rest } (.invokestatic index) mk argsL.toArray X₁ hg hsize hdg hW (X₁.named hnamed) (hpre vm₁ X₁.warmed) with ⟨v, B, X', hpost, hsteps⟩ | ⟨q, B, X', hpost, hsteps⟩
  · exact Or.inl ⟨v, vm₁, B, X₁.warmed, X', hpost, fun target h => hstep₁ _ fun acts => by rw [doInvoke_state]; exact hsteps.trans h⟩
  · exact Or.inr ⟨q, vm₁, B, X₁.warmed, X', hpost, hstep₁ _ fun acts => by rw [doInvoke_state]; exact hsteps⟩
end Calls
theorem vx_cls {s : State} {T : State} {vm₁ : Vm} {E : String} {k : ClassId} (hW : s.WarmedH vm₁) (h : (T.setVm vm₁).vm.findClass E = some k) : s.vm.findClass E = some k := by
  have h1 : vm₁.findClass E = some k := h
  rw [hW.alike.findClass] at h1
  exact h1
/-- the method's frame g, with q thrown over it -/
def vx_W (p : Program) (l : Launch) (e : Env) (R : Room) (s : State) (m : MethodId) (args : Array Value) (below : List Frame) (meth : Method) (c : Code) (H : Heap) (locs : List Loc) (cells slots : Nat) (Q : State → Prop) (g : JFrame) (q : Addr) : Prop :=
  ∀ T : State, T.heap = H → Stand p l e R s m args below meth c T locs cells slots → ∃ t, Steps p.tables e below ((T.setTop g).pushFrame (.throwing q)) t ∧ Q t
def vx_Run (p : Program) (l : Launch) (e : Env) (R : Room) (s : State) (m : MethodId) (args : Array Value) (below : List Frame) (meth : Method) (c : Code) (H : Heap) (locs : List Loc) (cells slots mc ms : Nat) (g : JFrame) (rest : List Value) (Qa : State → Outcome → State → Prop) (XC : String → State → State → Prop) (free : Addr → Prop) : Prop :=
  ∀ T : State, T.heap = H → Stand p l e R s m args below meth c T locs cells slots →
    (∃ (v : Option Value) (st₀ t T' : State) (L : List Loc), st₀.heap = H ∧ Stand p l e R s m args below meth c T' (locs ++ L) (cells + mc) (slots + ms) ∧ (∀ q ∈ L, free q.base) ∧ T'.heap = t.heap ∧ T'.vm = t.vm ∧ Qa st₀ (.returned v) t ∧
      Goes p e below T g T' { g with pc := g.pc + 3, stack := v.toList ++ rest }) ∨
    (∃ (q : Addr) (st₀ t T' : State) (L : List Loc) (E : String) (ce : Cell), st₀.heap = H ∧ Stand p l e R s m args below meth c T' (locs ++ L) (cells + mc) (slots + ms) ∧ (∀ z ∈ L, free z.base) ∧ T'.heap = t.heap ∧ T'.vm = t.vm ∧ XC E st₀ t ∧ t.heap[q]? = some ce ∧ ce.vm = .none ∧ s.vm.findClass E = some ce.cls ∧
      Steps p.tables e below (T.setTop g) ((T'.setTop { g with stack := rest }).pushFrame (.throwing q)))
def vx_X {S : Type} (px : S → Prop) (B : String → S → State → Prop) (A : Nat → Prop) : String → State → State → Prop := fun E st t => ∃ u : S, px u ∧ B E u t ∧ va_F A st t
section Runs
variable {p : Program} {l : Launch} {e : Env} {R : Room} {s : State} {m : MethodId} {args : Array Value} {below : List Frame} {meth : Method} {c : Code} {H : Heap} {locs : List Loc} {cells slots : Nat}
variable {y : MethodName} {bytes cc : ByteArray} {maxL nL mc ms n index : Nat} {ret : Option FieldType} {ws : List Cond} {rm : Room} {Pc : Array Value → State → Prop} {Qc : Array Value → State → Outcome → State → Prop} {XC : String → State → State → Prop} {free : Addr → Prop} {Ts : List Cond} {own C : String} {b : Addr} {As rest : List Value} {g : JFrame}
theorem vx_callBack (cb : CallB R s args own index y bytes maxL ret ws rm mc ms n) (hM : vx_Met l y ws rm Pc Qc XC mc ms free) (hbl : FrameBlind Pc) : vx_Back l R p e below s args y 3 8 (PreOf R mc ms Pc) (PostOf Qc mc ms free) (vx_Post XC mc ms free) := by
  obtain ⟨hrc, hrs, hfr, hlo, hws, hcw, -, hini, -⟩ := cb
  exact vx_back (bytes := bytes) (maxL := maxL) (ret := ret) hM hbl hrc hrs hfr hlo hws hcw (fun a' U hW => word_at hW (Or.inl (by first | rfl | simp [Cond.onTables, Cond.keeps, Cond.steady])) hini)
theorem vx_runV (S : CallFix p m c cc nL s args Ts own) (hM : vx_Met l y ws rm Pc Qc XC mc ms free) (cw : CallW R s args own C index y bytes maxL ret ws rm mc ms n) (hp : PreV s H C b Pc As)
    (hg : g.method = m) (hn : As.length = n) (hsize : g.locals.size = nL) (hstack : g.stack = As.reverse ++ .ref b :: rest) (hW : 2 * g.monitorRoom + (rest.map fun v => v.category).sum ≤ 8) (hdg : decode cc g.pc = .ok (.invokevirtual index, 3)) (hf : cells + mc ≤ R.cells ∧ slots + ms ≤ R.slots) :
    vx_Run p l e R s m args below meth c H locs cells slots mc ms g rest (Qc (Value.ref b :: As).toArray) XC free := by
  have hK : vx_Back l R p e below s args y 3 8 (PreOf R mc ms Pc) (PostOf Qc mc ms free) (vx_Post XC mc ms free) := vx_callBack cw.1 hM hp.1
  obtain ⟨⟨-, -, -, -, -, -, hcode, -, hy, hlen, hl⟩, hin, hse⟩ := cw
  obtain ⟨hx, hb, hml, ho, -⟩ := S
  obtain ⟨-, ⟨cellB, hcB, hoB, hclB⟩, hPc⟩ := hp
  intro T hT X
  rcases vx_callV X hx (C := C) (bytes := bytes) (maxL := maxL) (ret := ret) ho hl hin hse hcode hy hK (by rw [hT]; exact hcB) hoB hclB hg (hsize.trans hml.symm) (argsL := As) (rest := rest) (fun sig h => hn.trans (hlen sig h)) hstack hW (by rw [hb]; exact hdg)
    (fun vm₁ hW₁ => ⟨hf.1, hf.2, hPc (T.setVm vm₁) hT hW₁⟩) with ⟨v, vm₁, ⟨U', l2, c2, s2⟩, hW₁, X', ⟨g', mk, t, L, e1, e2, hq, h1, hL, h2, h3⟩, st⟩ | ⟨q, vm₁, ⟨U', l2, c2, s2⟩, hW₁, X', ⟨g', mk, t, L, E, ce, e1, e2, hq, hce, hcv, hcl, h1, hL, h2, h3⟩, st⟩
  · dsimp only [Pt.U, Pt.locs, Pt.cells, Pt.slots] at X' e1 e2 h1 h2 h3 st
    subst h1; subst h2; subst h3
    exact Or.inl ⟨v, (T.setVm vm₁).calling g' mk (Value.ref b :: As).toArray, t, U', L, hT, X', hL, e1, e2, hq, st⟩
  · dsimp only [Pt.U, Pt.locs, Pt.cells, Pt.slots] at X' e1 e2 h1 h2 h3 st hcl
    subst h1; subst h2; subst h3
    exact Or.inr ⟨q, (T.setVm vm₁).calling g' mk (Value.ref b :: As).toArray, t, U', L, E, ce, hT, X', hL, e1, e2, hq, hce, hcv, vx_cls hW₁ hcl, st⟩
theorem vx_runS (S : CallFix p m c cc nL s args Ts own) (hM : vx_Met l y ws rm Pc Qc XC mc ms free) (cw : CallB R s args own index y bytes maxL ret ws rm mc ms n ∧ (Cond.static y).before args s = true) (hp : PreS s H Pc As)
    (hg : g.method = m) (hn : As.length = n) (hsize : g.locals.size = nL) (hstack : g.stack = As.reverse ++ rest) (hW : 2 * g.monitorRoom + (rest.map fun v => v.category).sum ≤ 8) (hdg : decode cc g.pc = .ok (.invokestatic index, 3)) (hf : cells + mc ≤ R.cells ∧ slots + ms ≤ R.slots) :
    vx_Run p l e R s m args below meth c H locs cells slots mc ms g rest (Qc As.toArray) XC free := by
  have hK : vx_Back l R p e below s args y 3 8 (PreOf R mc ms Pc) (PostOf Qc mc ms free) (vx_Post XC mc ms free) := vx_callBack cw.1 hM hp.1
  obtain ⟨⟨-, -, -, -, -, -, hcode, hini, hy, hlen, hl⟩, hstt⟩ := cw
  obtain ⟨hx, hb, hml, ho, -⟩ := S
  intro T hT X
  rcases vx_callS X hx (bytes := bytes) (maxL := maxL) (ret := ret) ho hl hstt hini hcode hy hK hg (hsize.trans hml.symm) (argsL := As) (rest := rest) (fun sig h => hn.trans (hlen sig h)) hstack hW (by rw [hb]; exact hdg)
    (fun vm₁ hW₁ => ⟨hf.1, hf.2, hp.2 (T.setVm vm₁) hT hW₁⟩) with ⟨v, vm₁, ⟨U', l2, c2, s2⟩, hW₁, X', ⟨g', mk, t, L, e1, e2, hq, h1, hL, h2, h3⟩, st⟩ | ⟨q, vm₁, ⟨U', l2, c2, s2⟩, hW₁, X', ⟨g', mk, t, L, E, ce, e1, e2, hq, hce, hcv, hcl, h1, hL, h2, h3⟩, st⟩
  · dsimp only [Pt.U, Pt.locs, Pt.cells, Pt.slots] at X' e1 e2 h1 h2 h3 st
    subst h1; subst h2; subst h3
    exact Or.inl ⟨v, (T.setVm vm₁).calling g' mk As.toArray, t, U', L, hT, X', hL, e1, e2, hq, st⟩
  · dsimp only [Pt.U, Pt.locs, Pt.cells, Pt.slots] at X' e1 e2 h1 h2 h3 st hcl
    subst h1; subst h2; subst h3
    exact Or.inr ⟨q, (T.setVm vm₁).calling g' mk As.toArray, t, U', L, E, ce, hT, X', hL, e1, e2, hq, hce, hcv, vx_cls hW₁ hcl, st⟩
end Runs
section Rows
variable {p : Program} {l : Launch} {e : Env} {R : Room} {s : State} {m : MethodId} {args : Array Value} {below : List Frame} {meth : Method} {c : Code} {H : Heap} {locs : List Loc} {cells slots : Nat} {Q : State → Prop}
variable {mc ms : Nat} {free : Addr → Prop} {A0 A1 : Nat → Prop} {H0 : Heap} {a : Array Value} {pc : Nat} {ls : Array Slot} {st0 rest : List Value}
theorem vx_keep {st₀ t T' : State} {L : List Loc} (h0 : st₀.heap = H) (e1 : T'.heap = t.heap) (hS : va_S A0 H0 H locs) (hA : ∀ q, q < H.size → A1 q → A0 q) (hf : ∀ q, free q → A0 q) (hL : ∀ q ∈ L, free q.base) (hF : va_F A1 st₀ t) :
    H.size ≤ T'.heap.size ∧ (∀ q : Nat, q < H.size → ¬ A1 q → T'.heap[q]? = H[q]?) ∧ va_S A0 H0 T'.heap (locs ++ L) := by
  obtain ⟨hz, hk⟩ := hF
  rw [h0] at hz hk
  exact ⟨by rw [e1]; exact hz, fun q h1 h2 => by rw [e1]; exact hk q h1 h2,
    ⟨Nat.le_trans hS.1 (by rw [e1]; exact hz), fun q h1 h2 => by rw [e1, hk q (Nat.lt_of_lt_of_le h1 hS.1) (fun z => h2 (hA q (Nat.lt_of_lt_of_le h1 hS.1) z))]; exact hS.2.1 q h1 h2, fun q hq => by
      rcases List.mem_append.mp hq with h | h
      · exact hS.2.2 q h
      · exact hf _ (hL q h)⟩⟩
theorem vx_calli {S SX : Type} {post : Int32 → S → Prop} {px : SX → Prop} {B : S → State → Prop} {BX : String → SX → State → Prop} {AX : Nat → Prop} (hr : vx_Run p l e R s m args below meth c H locs cells slots mc ms (F0 m pc ls st0) rest (va_Qi post B A1 a) (vx_X px BX AX) free) (hS : va_S A0 H0 H locs) (hA : ∀ q, q < H.size → A1 q → A0 q) (hf : ∀ q, free q → A0 q) (hAX : ∀ q, q < H.size → AX q → A0 q)
    (kx : ∀ (E : String) (ce : Cell) (q9 : Addr) (u : SX) (t : State) (H1 : Heap) (locs1 : List Loc), t.heap = H1 → s.vm.Alike t.vm → px u → BX E u t → H.size ≤ H1.size → (∀ q : Nat, q < H.size → ¬ AX q → H1[q]? = H[q]?) → va_S A0 H0 H1 locs1 → H1[q9]? = some ce → ce.vm = .none → s.vm.findClass E = some ce.cls → vx_W p l e R s m args below meth c H1 locs1 (cells + mc) (slots + ms) Q (F0 m pc ls rest) q9)
    (kk : ∀ (r : Int32) (u : S) (t : State) (H1 : Heap) (locs1 : List Loc), t.heap = H1 → s.vm.Alike t.vm → post r u → B u t → H.size ≤ H1.size → (∀ q : Nat, q < H.size → ¬ A1 q → H1[q]? = H[q]?) → va_S A0 H0 H1 locs1 → W p l e R s m args below meth c H1 locs1 (cells + mc) (slots + ms) Q (F0 m (pc + 3) ls (.int r :: rest))) : W p l e R s m args below meth c H locs cells slots Q (F0 m pc ls st0) := by
  intro T hT X
  rcases hr T hT X with ⟨v, st₀, t, T', L, h0, X', hL, e1, e2, ⟨⟨r, u, hv, hp, hb⟩, hF⟩, st⟩ | ⟨q, st₀, t, T', L, E, ce, h0, X', hL, e1, e2, ⟨u, hp, hb, hF⟩, hce, hcv, hcl, st⟩
  · cases hv
    obtain ⟨k1, k2, k3⟩ := vx_keep h0 e1 hS hA hf hL hF
    obtain ⟨t2, a1, b1⟩ := kk r u t T'.heap (locs ++ L) e1.symm (by rw [← e2]; exact X'.warmed.alike) hp hb k1 k2 k3 T' rfl X'
    exact ⟨t2, st t2 a1, b1⟩
  · obtain ⟨k1, k2, k3⟩ := vx_keep h0 e1 hS hAX hf hL hF
    obtain ⟨t2, a1, b1⟩ := kx E ce q u t T'.heap (locs ++ L) e1.symm (by rw [← e2]; exact X'.warmed.alike) hp hb k1 k2 k3 (by rw [e1]; exact hce) hcv hcl T' rfl X'
    exact ⟨t2, st.trans a1, b1⟩
theorem vx_calll {S SX : Type} {post : Int64 → S → Prop} {px : SX → Prop} {B : S → State → Prop} {BX : String → SX → State → Prop} {AX : Nat → Prop} (hr : vx_Run p l e R s m args below meth c H locs cells slots mc ms (F0 m pc ls st0) rest (va_Ql post B A1 a) (vx_X px BX AX) free) (hS : va_S A0 H0 H locs) (hA : ∀ q, q < H.size → A1 q → A0 q) (hf : ∀ q, free q → A0 q) (hAX : ∀ q, q < H.size → AX q → A0 q)
    (kx : ∀ (E : String) (ce : Cell) (q9 : Addr) (u : SX) (t : State) (H1 : Heap) (locs1 : List Loc), t.heap = H1 → s.vm.Alike t.vm → px u → BX E u t → H.size ≤ H1.size → (∀ q : Nat, q < H.size → ¬ AX q → H1[q]? = H[q]?) → va_S A0 H0 H1 locs1 → H1[q9]? = some ce → ce.vm = .none → s.vm.findClass E = some ce.cls → vx_W p l e R s m args below meth c H1 locs1 (cells + mc) (slots + ms) Q (F0 m pc ls rest) q9)
    (kk : ∀ (r : Int64) (u : S) (t : State) (H1 : Heap) (locs1 : List Loc), t.heap = H1 → s.vm.Alike t.vm → post r u → B u t → H.size ≤ H1.size → (∀ q : Nat, q < H.size → ¬ A1 q → H1[q]? = H[q]?) → va_S A0 H0 H1 locs1 → W p l e R s m args below meth c H1 locs1 (cells + mc) (slots + ms) Q (F0 m (pc + 3) ls (.long r :: rest))) : W p l e R s m args below meth c H locs cells slots Q (F0 m pc ls st0) := by
  intro T hT X
  rcases hr T hT X with ⟨v, st₀, t, T', L, h0, X', hL, e1, e2, ⟨⟨r, u, hv, hp, hb⟩, hF⟩, st⟩ | ⟨q, st₀, t, T', L, E, ce, h0, X', hL, e1, e2, ⟨u, hp, hb, hF⟩, hce, hcv, hcl, st⟩
  · cases hv
    obtain ⟨k1, k2, k3⟩ := vx_keep h0 e1 hS hA hf hL hF
    obtain ⟨t2, a1, b1⟩ := kk r u t T'.heap (locs ++ L) e1.symm (by rw [← e2]; exact X'.warmed.alike) hp hb k1 k2 k3 T' rfl X'
    exact ⟨t2, st t2 a1, b1⟩
  · obtain ⟨k1, k2, k3⟩ := vx_keep h0 e1 hS hAX hf hL hF
    obtain ⟨t2, a1, b1⟩ := kx E ce q u t T'.heap (locs ++ L) e1.symm (by rw [← e2]; exact X'.warmed.alike) hp hb k1 k2 k3 (by rw [e1]; exact hce) hcv hcl T' rfl X'
    exact ⟨t2, st.trans a1, b1⟩
theorem vx_callf {S SX : Type} {post : UInt32 → S → Prop} {px : SX → Prop} {B : S → State → Prop} {BX : String → SX → State → Prop} {AX : Nat → Prop} (hr : vx_Run p l e R s m args below meth c H locs cells slots mc ms (F0 m pc ls st0) rest (va_Qf post B A1 a) (vx_X px BX AX) free) (hS : va_S A0 H0 H locs) (hA : ∀ q, q < H.size → A1 q → A0 q) (hf : ∀ q, free q → A0 q) (hAX : ∀ q, q < H.size → AX q → A0 q)
    (kx : ∀ (E : String) (ce : Cell) (q9 : Addr) (u : SX) (t : State) (H1 : Heap) (locs1 : List Loc), t.heap = H1 → s.vm.Alike t.vm → px u → BX E u t → H.size ≤ H1.size → (∀ q : Nat, q < H.size → ¬ AX q → H1[q]? = H[q]?) → va_S A0 H0 H1 locs1 → H1[q9]? = some ce → ce.vm = .none → s.vm.findClass E = some ce.cls → vx_W p l e R s m args below meth c H1 locs1 (cells + mc) (slots + ms) Q (F0 m pc ls rest) q9)
    (kk : ∀ (r : UInt32) (u : S) (t : State) (H1 : Heap) (locs1 : List Loc), t.heap = H1 → s.vm.Alike t.vm → post r u → B u t → H.size ≤ H1.size → (∀ q : Nat, q < H.size → ¬ A1 q → H1[q]? = H[q]?) → va_S A0 H0 H1 locs1 → W p l e R s m args below meth c H1 locs1 (cells + mc) (slots + ms) Q (F0 m (pc + 3) ls (.float r :: rest))) : W p l e R s m args below meth c H locs cells slots Q (F0 m pc ls st0) := by
  intro T hT X
  rcases hr T hT X with ⟨v, st₀, t, T', L, h0, X', hL, e1, e2, ⟨⟨r, u, hv, hp, hb⟩, hF⟩, st⟩ | ⟨q, st₀, t, T', L, E, ce, h0, X', hL, e1, e2, ⟨u, hp, hb, hF⟩, hce, hcv, hcl, st⟩
  · cases hv
    obtain ⟨k1, k2, k3⟩ := vx_keep h0 e1 hS hA hf hL hF
    obtain ⟨t2, a1, b1⟩ := kk r u t T'.heap (locs ++ L) e1.symm (by rw [← e2]; exact X'.warmed.alike) hp hb k1 k2 k3 T' rfl X'
    exact ⟨t2, st t2 a1, b1⟩
  · obtain ⟨k1, k2, k3⟩ := vx_keep h0 e1 hS hAX hf hL hF
    obtain ⟨t2, a1, b1⟩ := kx E ce q u t T'.heap (locs ++ L) e1.symm (by rw [← e2]; exact X'.warmed.alike) hp hb k1 k2 k3 (by rw [e1]; exact hce) hcv hcl T' rfl X'
    exact ⟨t2, st.trans a1, b1⟩
theorem vx_calld {S SX : Type} {post : UInt64 → S → Prop} {px : SX → Prop} {B : S → State → Prop} {BX : String → SX → State → Prop} {AX : Nat → Prop} (hr : vx_Run p l e R s m args below meth c H locs cells slots mc ms (F0 m pc ls st0) rest (va_Qd post B A1 a) (vx_X px BX AX) free) (hS : va_S A0 H0 H locs) (hA : ∀ q, q < H.size → A1 q → A0 q) (hf : ∀ q, free q → A0 q) (hAX : ∀ q, q < H.size → AX q → A0 q)
    (kx : ∀ (E : String) (ce : Cell) (q9 : Addr) (u : SX) (t : State) (H1 : Heap) (locs1 : List Loc), t.heap = H1 → s.vm.Alike t.vm → px u → BX E u t → H.size ≤ H1.size → (∀ q : Nat, q < H.size → ¬ AX q → H1[q]? = H[q]?) → va_S A0 H0 H1 locs1 → H1[q9]? = some ce → ce.vm = .none → s.vm.findClass E = some ce.cls → vx_W p l e R s m args below meth c H1 locs1 (cells + mc) (slots + ms) Q (F0 m pc ls rest) q9)
    (kk : ∀ (r : UInt64) (u : S) (t : State) (H1 : Heap) (locs1 : List Loc), t.heap = H1 → s.vm.Alike t.vm → post r u → B u t → H.size ≤ H1.size → (∀ q : Nat, q < H.size → ¬ A1 q → H1[q]? = H[q]?) → va_S A0 H0 H1 locs1 → W p l e R s m args below meth c H1 locs1 (cells + mc) (slots + ms) Q (F0 m (pc + 3) ls (.double r :: rest))) : W p l e R s m args below meth c H locs cells slots Q (F0 m pc ls st0) := by
  intro T hT X
  rcases hr T hT X with ⟨v, st₀, t, T', L, h0, X', hL, e1, e2, ⟨⟨r, u, hv, hp, hb⟩, hF⟩, st⟩ | ⟨q, st₀, t, T', L, E, ce, h0, X', hL, e1, e2, ⟨u, hp, hb, hF⟩, hce, hcv, hcl, st⟩
  · cases hv
    obtain ⟨k1, k2, k3⟩ := vx_keep h0 e1 hS hA hf hL hF
    obtain ⟨t2, a1, b1⟩ := kk r u t T'.heap (locs ++ L) e1.symm (by rw [← e2]; exact X'.warmed.alike) hp hb k1 k2 k3 T' rfl X'
    exact ⟨t2, st t2 a1, b1⟩
  · obtain ⟨k1, k2, k3⟩ := vx_keep h0 e1 hS hAX hf hL hF
    obtain ⟨t2, a1, b1⟩ := kx E ce q u t T'.heap (locs ++ L) e1.symm (by rw [← e2]; exact X'.warmed.alike) hp hb k1 k2 k3 (by rw [e1]; exact hce) hcv hcl T' rfl X'
    exact ⟨t2, st.trans a1, b1⟩
theorem vx_callv {S SX : Type} {post : S → Prop} {px : SX → Prop} {B : S → State → Prop} {BX : String → SX → State → Prop} {AX : Nat → Prop} (hr : vx_Run p l e R s m args below meth c H locs cells slots mc ms (F0 m pc ls st0) rest (va_Qv post B A1 a) (vx_X px BX AX) free) (hS : va_S A0 H0 H locs) (hA : ∀ q, q < H.size → A1 q → A0 q) (hf : ∀ q, free q → A0 q) (hAX : ∀ q, q < H.size → AX q → A0 q)
    (kx : ∀ (E : String) (ce : Cell) (q9 : Addr) (u : SX) (t : State) (H1 : Heap) (locs1 : List Loc), t.heap = H1 → s.vm.Alike t.vm → px u → BX E u t → H.size ≤ H1.size → (∀ q : Nat, q < H.size → ¬ AX q → H1[q]? = H[q]?) → va_S A0 H0 H1 locs1 → H1[q9]? = some ce → ce.vm = .none → s.vm.findClass E = some ce.cls → vx_W p l e R s m args below meth c H1 locs1 (cells + mc) (slots + ms) Q (F0 m pc ls rest) q9)
    (kk : ∀ (u : S) (t : State) (H1 : Heap) (locs1 : List Loc), t.heap = H1 → s.vm.Alike t.vm → post u → B u t → H.size ≤ H1.size → (∀ q : Nat, q < H.size → ¬ A1 q → H1[q]? = H[q]?) → va_S A0 H0 H1 locs1 → W p l e R s m args below meth c H1 locs1 (cells + mc) (slots + ms) Q (F0 m (pc + 3) ls (rest))) : W p l e R s m args below meth c H locs cells slots Q (F0 m pc ls st0) := by
  intro T hT X
  rcases hr T hT X with ⟨v, st₀, t, T', L, h0, X', hL, e1, e2, ⟨⟨u, hv, hp, hb⟩, hF⟩, st⟩ | ⟨q, st₀, t, T', L, E, ce, h0, X', hL, e1, e2, ⟨u, hp, hb, hF⟩, hce, hcv, hcl, st⟩
  · cases hv
    obtain ⟨k1, k2, k3⟩ := vx_keep h0 e1 hS hA hf hL hF
    obtain ⟨t2, a1, b1⟩ := kk u t T'.heap (locs ++ L) e1.symm (by rw [← e2]; exact X'.warmed.alike) hp hb k1 k2 k3 T' rfl X'
    exact ⟨t2, st t2 a1, b1⟩
  · obtain ⟨k1, k2, k3⟩ := vx_keep h0 e1 hS hAX hf hL hF
    obtain ⟨t2, a1, b1⟩ := kx E ce q u t T'.heap (locs ++ L) e1.symm (by rw [← e2]; exact X'.warmed.alike) hp hb k1 k2 k3 (by rw [e1]; exact hce) hcv hcl T' rfl X'
    exact ⟨t2, st.trans a1, b1⟩
/-- caught by the row x of this method's table; the rows ahead don't take it -/
theorem vx_catch {own name : String} {E : String} {ce : Cell} {q : Addr} (hown : s.vm.findClass own = some m.cls) (pre : List ExceptionTableEntry) (x : ExceptionTableEntry) (suf : List ExceptionTableEntry) (hsplit : c.exceptionTable.toList = pre ++ x :: suf)
    (hpass : ∀ z ∈ pre, covers z pc = false ∨ (z.catchType ≠ 0 ∧ ∃ nm : String, (Cond.classLink own z.catchType nm).before args s = true ∧ va_Nc E nm s)) (hx : covers x pc = true) (h0 : x.catchType ≠ 0)
    (hlink : (Cond.classLink own x.catchType name).before args s = true) (hcast : (Cond.castable E name).before args s = true) (hcell : H[q]? = some ce) (hv : ce.vm = .none) (hcl : s.vm.findClass E = some ce.cls)
    (kk : W p l e R s m args below meth c H locs cells slots Q (F0 m x.handlerPc ls [.ref q])) : vx_W p l e R s m args below meth c H locs cells slots Q (F0 m pc ls rest) q := by
  intro T hT X
  have hpl : e.platform.magicAccessors = ({} : Platform).magicAccessors := by rw [X.admits.platform]
  obtain ⟨c3, c4, hc3, hc4, hasg⟩ := Cond.castable_spec hcast
  cases Option.some.inj (hc3.symm.trans hcl)
  obtain ⟨c5, hc5, hcl5⟩ := Cond.classLink_spec hown hlink e.platform hpl
  cases Option.some.inj (hc4.symm.trans hc5)
  obtain ⟨vm', X', st⟩ := X.thenCaughtThrough q (g := F0 m pc ls rest) rfl (Steps.refl _) (by rw [hT]; exact hcell) (by rw [hv]; rfl) (by obtain ⟨k9, h9, -⟩ := Vm.findClass_spec hcl; exact ⟨k9, h9⟩) pre x suf hsplit
    (fun z hz => by
      rcases hpass z hz with h | ⟨hz0, nm, hl1, hn1⟩
      · exact Or.inl h
      · obtain ⟨c6, hc6, hcl6⟩ := Cond.classLink_spec hown hl1 e.platform hpl
        obtain ⟨a8, b8, h1, h2, h3⟩ := hn1
        cases Option.some.inj (h1.symm.trans hcl)
        cases Option.some.inj (h2.symm.trans hc6)
        exact Or.inr ⟨hz0, _, hcl6, h3⟩) hx (Or.inr ⟨h0, c4, hcl5, hasg⟩)
  obtain ⟨t, a1, b1⟩ := kk (T.setVm vm') hT X'
  exact ⟨t, st.trans a1, b1⟩
end Rows
section Ends
variable {p : Program} {l : Launch} {e : Env} {R : Room} {s : State} {m : MethodId} {args : Array Value} {below : List Frame} {meth : Method} {c : Code} {H : Heap} {locs : List Loc} {cells slots : Nat} {Q : State → Prop}
variable {mc ms : Nat} {free : Addr → Prop} {A0 A1 : Nat → Prop} {H0 : Heap} {a : Array Value} {ls : Array Slot} {st0 rest : List Value}
variable {Qc : Array Value → State → Outcome → State → Prop} {XC : String → State → State → Prop}
/-- what a body that may throw owes at its end -/
def vx_MQ (below : List Frame) (Qc : Array Value → State → Outcome → State → Prop) (XC : String → State → State → Prop) (a : Array Value) (s : State) (mc ms : Nat) (free : Addr → Prop) : State → Prop := fun t =>
  ∃ o, t.status = .running ∧ Ended t below o ∧ vx_Q Qc XC mc ms free a s o t
theorem vx_ret {g : JFrame} {mc ms : Nat} (k : W p l e R s m args below meth c H locs cells slots (MQ below Qc args s mc ms free) g) : W p l e R s m args below meth c H locs cells slots (vx_MQ below Qc XC args s mc ms free) g := by
  intro T hT X
  obtain ⟨t, a1, o, b1, b2, b3, b4⟩ := k T hT X
  exact ⟨t, a1, o, b1, b2, Or.inl ⟨b3, b4⟩⟩
/-- not caught here: it goes on to the caller -/
theorem vx_widen {g : JFrame} {q : Addr} {k n : Nat} (h1 : cells ≤ k) (h2 : slots ≤ n) (kk : vx_W p l e R s m args below meth c H locs k n Q g q) : vx_W p l e R s m args below meth c H locs cells slots Q g q := fun T hT X => kk T hT (stand_widen X h1 h2)
theorem vx_out {pc : Nat} {E : String} {ce : Cell} {q : Addr} {mc ms : Nat} (hout : ∀ x ∈ c.exceptionTable.toList, covers x pc = false) (hlocks : meth.locks = false) (hcell : H[q]? = some ce) (hv : ce.vm = .none) (hcl : s.vm.findClass E = some ce.cls)
    (hx : ∀ t : State, t.heap = H → s.vm.Alike t.vm → XC E s t) (hf : ∀ z ∈ locs, free z.base) (hc : cells ≤ mc) (hs : slots ≤ ms) :
    vx_W p l e R s m args below meth c H locs cells slots (vx_MQ below Qc XC args s mc ms free) (F0 m pc ls rest) q := by
  intro T hT X
  obtain ⟨st1, hrun, hend, hW, hsm⟩ := X.leaveThrown q (g := F0 m pc ls rest) rfl rfl rfl hout hlocks
  have hcell9 : (T.setFrames (.throwing q :: below)).heap[q]? = some ce := by
    show T.heap[q]? = some ce
    rw [hT]; exact hcell
  exact ⟨_, st1, .threw q, hrun, hend, Or.inr ⟨q, rfl, E, ce, locs, hx _ hT hW.alike, hcell9, hv, hcl, hW, hsm.mono hc hs, hf⟩⟩
theorem vx_frame {U : State} {k n : Nat} (h : s.sameButNew ({ U with vm := s.vm } : State) locs k n) : s.heap.size ≤ U.heap.size ∧ ∀ q : Nat, q < s.heap.size → (∀ z ∈ locs, z.base ≠ q) → U.heap[q]? = s.heap[q]? := by
  obtain ⟨-, h2, -, -, -, h6⟩ := h
  refine ⟨h2, fun q hq hz => ?_⟩
  obtain ⟨c9, e1, e2, e3, e4⟩ := h6 q _ (Array.getElem?_eq_getElem hq)
  have hs : c9.slots = (s.heap[q]).slots := Array.ext_getElem? fun i => e4 i fun hm => hz _ hm rfl
  have h9 : c9 = s.heap[q] := by
    rw [hs] at e2
    exact e2
  have e5 : U.heap[q]? = some c9 := e1
  rw [e5, h9, Array.getElem?_eq_getElem hq]
/-- the words of a throw but the four that speak of the heap -/
def vx_no (w : Cond) : Bool := decide (w ≠ .isRef (.static Bundle.tN "UNASSIGNED_STACK" Bundle.steD)) && decide (w ≠ .isRef (.static Bundle.tN "SUPPRESSED_SENTINEL" Bundle.listD)) && decide (w ≠ .laysStatic Bundle.tN "UNASSIGNED_STACK" Bundle.steD) && decide (w ≠ .laysStatic Bundle.tN "SUPPRESSED_SENTINEL" Bundle.listD)
def vx_at0 (own : String) (ic : Nat) (X : String) (names : List String) : List Cond := (Bundle.ownAtoms0 own ic X names).filter vx_no
def vx_atS (own : String) (ic : Nat) (X : String) (names : List String) : List Cond := (Bundle.ownAtoms own ic X names).filter vx_no
/-- a word that the tables alone decide, or a good one -/
def vx_ot (w : Cond) : Bool := w.onTables || goodWord w
theorem vx_ot_at {args a' : Array Value} {s U : State} {w : Cond} (hW : s.WarmedH U.vm) (hvm : s.vm = U.vm) (hg : vx_ot w = true) (h : w.before args s = true) : w.before a' U = true := by
  simp only [vx_ot, Bool.or_eq_true] at hg
  rcases hg with hg | hg
  · exact va_tabs hg hvm h
  · exact word_at hW (good_of_word hg) h
/-- a list's words: the good ones out of the method's own list, the others by premises of their own -/
theorem vx_hat {args : Array Value} {s : State} {L B : List Cond} (h1 : ∀ w ∈ L.filter goodWord, w.before args s = true) (h2 : ∀ w ∈ L.filter (fun w => !goodWord w), w ∈ B) (h3 : ∀ w ∈ B, w.before args s = true) : ∀ w ∈ L, w.before args s = true := by
  intro w hw
  by_cases g : goodWord w = true
  · exact h1 w (List.mem_filter.mpr ⟨hw, g⟩)
  · refine h3 w (h2 w (List.mem_filter.mpr ⟨hw, ?_⟩))
    show (!goodWord w) = true
    cases hgw : goodWord w
    · rfl
    · exact absurd hgw g
theorem vx_c {args : Array Value} {s : State} {w : Cond} {B : List Cond} (h : w.before args s = true) (t : ∀ w ∈ B, w.before args s = true) : ∀ w' ∈ w :: B, w'.before args s = true := fun w' h' => (List.mem_cons.mp h').elim (fun e => by rw [e]; exact h) (t w')
theorem vx_n {args : Array Value} {s : State} : ∀ w ∈ ([] : List Cond), w.before args s = true := fun _ h => nomatch h
theorem vx_own {args : Array Value} {s : State} {L : List Cond} (h1 : ∀ w ∈ L.filter vx_no, w.before args s = true)
    (hU : (Cond.isRef (.static Bundle.tN "UNASSIGNED_STACK" Bundle.steD)).before args s = true) (hN : (Cond.isRef (.static Bundle.tN "SUPPRESSED_SENTINEL" Bundle.listD)).before args s = true)
    (lU : (Cond.laysStatic Bundle.tN "UNASSIGNED_STACK" Bundle.steD).before args s = true) (lN : (Cond.laysStatic Bundle.tN "SUPPRESSED_SENTINEL" Bundle.listD).before args s = true) : ∀ w ∈ L, w.before args s = true := by
  intro w hw
  by_cases e1 : w = .isRef (.static Bundle.tN "UNASSIGNED_STACK" Bundle.steD)
  · rw [e1]; exact hU
  · by_cases e2 : w = .isRef (.static Bundle.tN "SUPPRESSED_SENTINEL" Bundle.listD)
    · rw [e2]; exact hN
    · by_cases e3 : w = .laysStatic Bundle.tN "UNASSIGNED_STACK" Bundle.steD
      · rw [e3]; exact lU
      · by_cases e4 : w = .laysStatic Bundle.tN "SUPPRESSED_SENTINEL" Bundle.listD
        · rw [e4]; exact lN
        · exact h1 w (List.mem_filter.mpr ⟨hw, by unfold vx_no; rw [decide_eq_true e1, decide_eq_true e2, decide_eq_true e3, decide_eq_true e4]; rfl⟩)
/-- where a static field lies, its class's statics cell in H -/
def vx_L (C n d : String) (A : Nat → Prop) (U : State) (H : Heap) : Prop := ∃ (c : ClassId) (k : Class) (i : Nat) (f : Field) (a : Nat) (cell : Cell), U.vm.findClass C = some c ∧ U.fieldFound? C n d = some (c, k, i, f) ∧ f.isStatic = true ∧ k.statics = some a ∧ H[a]? = some cell ∧ cell.vm.isStatics = true ∧ cell.cls = c ∧ f.slot < cell.slots.size ∧ k.staticTypes[f.slot]? = some f.type ∧ ¬ A a
theorem vx_L.moved {C n d : String} {A : Nat → Prop} {u U : State} {H : Heap} (hvm : u.vm.Alike U.vm) (h : vx_L C n d A u H) : vx_L C n d A U H := by
  obtain ⟨c, k, i, f, a, cell, h1, h2, h3, h4, h5, h6, h7, h8, h9, h10⟩ := h
  obtain ⟨k', hi', he⟩ := State.fieldFound?_setVm hvm h2
  exact ⟨c, k', i, f, a, cell, by rw [hvm.findClass]; exact h1, hi', h3, by rw [he]; exact h4, h5, h6, h7, h8, by rw [he]; exact h9, h10⟩
theorem vx_L.kept {C n d : String} {A : Nat → Prop} {U : State} {H H1 : Heap} (h : vx_L C n d A U H) (hq : ∀ a : Nat, a < H.size → ¬ A a → H1[a]? = H[a]?) : vx_L C n d A U H1 := by
  obtain ⟨c, k, i, f, a, cell, h1, h2, h3, h4, h5, h6, h7, h8, h9, h10⟩ := h
  exact ⟨c, k, i, f, a, cell, h1, h2, h3, h4, by rw [hq a (Array.getElem?_eq_some_iff.mp h5).1 h10]; exact h5, h6, h7, h8, h9, h10⟩
theorem vx_L.narrow {C n d : String} {A B : Nat → Prop} {U : State} {H : Heap} (h : vx_L C n d A U H) (hAB : ∀ q, B q → A q) : vx_L C n d B U H := by
  obtain ⟨c, k, i, f, a, cell, h1, h2, h3, h4, h5, h6, h7, h8, h9, h10⟩ := h
  exact ⟨c, k, i, f, a, cell, h1, h2, h3, h4, h5, h6, h7, h8, h9, fun z => h10 (hAB _ z)⟩
theorem vx_L.word {C n d : String} {A : Nat → Prop} {s : State} {args : Array Value} (h : vx_L C n d A s s.heap) : (Cond.laysStatic C n d).before args s = true := by
  obtain ⟨c, k, i, f, a, cell, h1, h2, h3, h4, h5, h6, h7, h8, h9, -⟩ := h
  show (Cond.laysStatic C n d).holds args s none s [] = true
  exact Cond.laysStatic_of h1 h2 h3 h4 h5 h6 h7 h8 h9
/-- .. and what it holds: null or some reference -/
def vx_Zq (C n d : String) (A : Nat → Prop) (U : State) (H : Heap) : Prop := va_Zq C n d A U H ∧ vx_L C n d A U H
theorem vx_Zq.moved {C n d : String} {A : Nat → Prop} {u U : State} {H : Heap} (hvm : u.vm.Alike U.vm) (h : vx_Zq C n d A u H) : vx_Zq C n d A U H := ⟨va_Zq.moved hvm h.1, vx_L.moved hvm h.2⟩
theorem vx_Zq.kept {C n d : String} {A : Nat → Prop} {U : State} {H H1 : Heap} (h : vx_Zq C n d A U H) (hq : ∀ a : Nat, a < H.size → ¬ A a → H1[a]? = H[a]?) : vx_Zq C n d A U H1 := ⟨va_Zq.kept h.1 hq, vx_L.kept h.2 hq⟩
theorem vx_Zq.narrow {C n d : String} {A B : Nat → Prop} {U : State} {H : Heap} (h : vx_Zq C n d A U H) (hAB : ∀ q, B q → A q) : vx_Zq C n d B U H := ⟨va_Zq.narrow h.1 hAB, vx_L.narrow h.2 hAB⟩
theorem vx_Zqof {args : Array Value} {s : State} {C n d : String} {A : Nat → Prop} (hl : (Cond.laysStatic C n d).before args s = true) (hini : (Cond.initialized C).before args s = true) (h : (Cond.isRef (.static C n d)).before args s = true) (hA : ∀ a : Nat, a < s.heap.size → ¬ A a) : vx_Zq C n d A s s.heap := by
  refine ⟨va_Zqof hl hini h hA, ?_⟩
  obtain ⟨c, k, i, f, a, cell, h1, h2, h3, h4, h5, h6, h7, h8, h9⟩ := Cond.laysStatic_spec hl
  exact ⟨c, k, i, f, a, cell, h1, h2, h3, h4, h5, h6, h7, h8, h9, hA a (Array.getElem?_eq_some_iff.mp h5).1⟩
theorem vx_isRef {C n d : String} {v : Value} {A : Nat → Prop} {s : State} {args : Array Value} (h : va_Z C n d v A s s.heap) (hv : v.isRef = true) : (Cond.isRef (.static C n d)).before args s = true := by
  obtain ⟨cf, kf, fi, f, a, cell, h1, h2, h3, h4, h5, h6, h7, -⟩ := h
  have he : (Term.static C n d).eval args s none [] s = some v := by
    simp [Term.eval, State.fieldNamed?, h1, h2, h4, h5, h6, h7]
  simp only [Cond.before, Cond.holds, Cond.value, he]
  cases v <;> simp_all [Value.isRef]
theorem vx_isRefq {C n d : String} {A : Nat → Prop} {s : State} {args : Array Value} (h : va_Zq C n d A s s.heap) : (Cond.isRef (.static C n d)).before args s = true := by
  rcases h with h | ⟨t, h⟩
  · exact vx_isRef h rfl
  · exact vx_isRef h rfl
/-- the same frame, seen from here: as if the method were called anew in this heap -/
theorem vx_rebase {T : State} (X : Stand p l e R s m args below meth c T locs cells slots) {R' : Room} (hf : R'.frames ≤ R.frames) (hl : R'.locals ≤ R.locals) (hc : cells + R'.cells ≤ R.cells) (hs : slots + R'.slots ≤ R.slots) :
    Stand p l e R' ((T.setVm s.vm).setFrames (.invoking m args :: below)) m args below meth c T [] 0 0 := by
  have htop : (T.setVm s.vm).topJava?.isSome := X.here.top
  have hF : ((T.setVm s.vm).setFrames (.invoking m args :: below)).frames = .invoking m args :: below := State.frames_setFrames _ (State.cur_lt_of_top htop)
  obtain ⟨g₀, hg0⟩ := Option.isSome_iff_exists.mp htop
  obtain ⟨r, hr⟩ := State.topJava?_eq_some.mp hg0
  have hl9 : e.platform.stackLimits (T.setVm s.vm).me = e.platform.stackLimits s.me := X.limits
  have hb9 : (T.setVm s.vm).me.stackBytes = s.me.stackBytes := X.bytes
  refine ⟨X.admits, X.cas, X.clock, hF, ?_, X.hears, X.method, X.code, X.here, X.tail, X.warmed, ?_, ?_, ?_⟩
  · have h := X.room
    have hU : ((T.setVm s.vm).setFrames (.invoking m args :: below)).localsInUse = s.localsInUse := by
      rw [State.localsInUse_invoking hF (meth := meth) (c := c) X.method X.code, State.localsInUse_invoking X.frames X.method X.code]
    simp only [State.hasRoom, Bool.and_eq_true, decide_eq_true_eq] at h ⊢
    obtain ⟨⟨⟨⟨h1, h2, h3, h4, h5, h6⟩, h7⟩, h8⟩, h9⟩ := h
    rw [X.frames, List.length_cons] at h2 h3
    have q1 := X.heapSize
    have q2 := X.used
    simp only [hF, hU, List.length_cons, State.stackLimits_setFrames, State.stackBytes_setFrames, hl9, hb9]
    refine ⟨⟨⟨⟨by omega, by omega, by omega, by omega, by omega, h6⟩, ?_⟩, ?_⟩, X.book⟩
    · show T.heap.size + R'.cells ≤ e.platform.maxCells
      omega
    · show T.slotsUsed + R'.slots ≤ e.platform.maxSlots
      omega
  · rw [State.stackLimits_setFrames]; rfl
  · rw [State.stackBytes_setFrames]; rfl
  · refine ⟨?_, Nat.le_refl _, Nat.le_refl _, ?_, ?_, fun a c9 h9 => ⟨c9, h9, rfl, rfl, fun _ _ => rfl⟩⟩
    · obtain ⟨t, ht, -⟩ := State.frames_cons hr
      show T.setVm s.vm = { ((T.setVm s.vm).setFrames (.invoking m args :: below)).setFrames (T.setVm s.vm).frames with heap := T.heap, slotsUsed := T.slotsUsed }
      rw [State.setFrames_setFrames, State.setFrames_self ht]
      rfl
    · show T.slotsUsed = T.slotsUsed + ((T.heap.toList.drop T.heap.size).map (·.slots.size)).sum
      rw [List.drop_eq_nil_of_le (Nat.le_of_eq Array.length_toList)]
      rfl
    · show ((T.heap.toList.drop T.heap.size).map (·.slots.size)).sum ≤ 0
      rw [List.drop_eq_nil_of_le (Nat.le_of_eq Array.length_toList)]
      exact Nat.le_refl _
/-- 'throw new E()': new; dup; invokespecial; athrow -/
theorem vx_throw0 {cc : ByteArray} {pc : Nat} (hexec : p.tables.exec = Jvm.exec) (hb : c.code = cc) (hl : l.stackTraces = false) {own cls : String} {names : List String} {ik ic mc ms : Nat} {A : Nat → Prop}
    (hown : s.vm.findClass own = some m.cls) (hcls : Bundle.fit cls = true) (hnames : ∀ n ∈ names, Bundle.fit n = true)
    (hk : (Cond.classLink own ik cls).before args s = true) (hini : (Cond.initialized cls).before args s = true) (hat : ∀ w ∈ vx_at0 own ic cls names, w.before args s = true)
    (hgood : ∀ w ∈ Cond.classLink own ik cls :: Cond.initialized cls :: vx_at0 own ic cls names, vx_ot w = true)
    (hU : vx_Zq Bundle.tN "UNASSIGNED_STACK" Bundle.steD A s s.heap) (hN : vx_Zq Bundle.tN "SUPPRESSED_SENTINEL" Bundle.listD A s s.heap) (hS : va_S A s.heap H locs) (hsize : ls.size = c.maxLocals)
    (d0 : decode cc pc = .ok (.new ik, 3)) (d3 : decode cc (pc + 3) = .ok (.dup, 1)) (d4 : decode cc (pc + 4) = .ok (.invokespecial ic, 3)) (d7 : decode cc (pc + 7) = .ok (.athrow, 1))
    (hout : ∀ x ∈ c.exceptionTable.toList, covers x (pc + 7) = false)
    (hRframes : names.length + 3 < R.frames) (hRlocals : (rest.map fun v => v.category).sum + (13 * (names.length + 1) + 42) ≤ R.locals) (hRcells : cells + 1 ≤ R.cells) (hRslots : slots + 6 ≤ R.slots) (hlocks : meth.locks = false)
    (hx : ∀ t : State, s.vm.Alike t.vm → H.size ≤ t.heap.size → (∀ q : Nat, q < H.size → t.heap[q]? = H[q]?) → XC cls s t)
    (hf : ∀ z ∈ locs, free z.base) (hc : cells + 1 ≤ mc) (hs : slots + 6 ≤ ms) :
    W p l e R s m args below meth c H locs cells slots (vx_MQ below Qc XC args s mc ms free) (F0 m pc ls rest) := by
  intro T hT X
  have htr : e.platform.stackTraces = false := (show e.platform.stackTraces = l.stackTraces by rw [X.admits.platform]).trans hl
  have Y := vx_rebase X (R' := { frames := R.frames, locals := R.locals, cells := 1, slots := 6 }) (Nat.le_refl _) (Nat.le_refl _) hRcells hRslots
  obtain ⟨s', hA⟩ : ∃ z, z = (T.setVm s.vm).setFrames (.invoking m args :: below) := ⟨_, rfl⟩
  rw [← hA] at Y
  have hvm : s'.vm = s.vm := by rw [hA]; rfl
  have hhp : s'.heap = H := by rw [hA]; exact hT
  have hW0 : s.WarmedH s'.vm := by rw [hvm]; exact State.WarmedH.refl s
  have hat' : ∀ w ∈ vx_at0 own ic cls names, w.before args s' = true := fun w hw => vx_ot_at hW0 hvm.symm (hgood w (List.mem_cons_of_mem _ (List.mem_cons_of_mem _ hw))) (hat w hw)
  have hk' : (Cond.classLink own ik cls).before args s' = true := vx_ot_at hW0 hvm.symm (hgood _ List.mem_cons_self) hk
  have hini' : (Cond.initialized cls).before args s' = true := vx_ot_at hW0 hvm.symm (hgood _ (List.mem_cons_of_mem _ List.mem_cons_self)) hini
  have hU' : vx_Zq Bundle.tN "UNASSIGNED_STACK" Bundle.steD A s' s'.heap := by rw [hhp]; exact vx_Zq.moved hW0.alike (hU.kept hS.2.1)
  have hN' : vx_Zq Bundle.tN "SUPPRESSED_SENTINEL" Bundle.listD A s' s'.heap := by rw [hhp]; exact vx_Zq.moved hW0.alike (hN.kept hS.2.1)
  have h : ∀ w ∈ Bundle.ownAtoms0 own ic cls names, w.before args s' = true := vx_own hat' (vx_isRefq hU'.1) (vx_isRefq hN'.1) hU'.2.word hN'.2.word
  have hown' : s'.vm.findClass own = some m.cls := by rw [hvm]; exact hown
  have hins : (Cond.instantiable cls 6).before args s' = true := h _ (by simp [Bundle.ownAtoms0])
  obtain ⟨vm₁, cX, kX, hfX, hkX, -, -, X₁, st1⟩ := Y.newCold hexec (own := own) (C := cls) (index := ik) (n := 6) hown' hk' hins hini'
    (g := F0 m pc ls rest) rfl (by rw [hb]; exact d0) (Nat.le_refl _) (Nat.le_refl _)
  generalize hT1 : (T.setVm vm₁).pushCell { cls := cX, slots := kX.instanceTypes.map defaultValue, vm := .none } = T1 at X₁ st1
  have hcat : (Value.ref T.heap.size).category = 1 := rfl
  have hcellA : T1.heap[T.heap.size]? = some (freshCell cX kX) := by rw [← hT1]; exact State.heap_pushCell_size _ _
  have d3' : decode c.code (pc + 3) = .ok (.dup, 1) := by rw [hb]; exact d3
  obtain ⟨U, hsteps, hrun, hend, hW, hsame, ce, hce, hO⟩ := X₁.ctorThrow0 hexec htr (own := own) (cls := cls) (names := names) (ic := ic) hown' hcls hnames h (fun x hx => nomatch hx) hfX hkX hcellA (by rw [hhp, hT]; exact Nat.le_refl _)
    (g := { method := m, pc := pc + 4, locals := ls, stack := .ref T.heap.size :: .ref T.heap.size :: rest, locked := none }) rfl hsize rfl rfl (rest := rest) rfl
    (by rw [hb]; exact d4) (by rw [hb]; exact d7) hout hRframes (by simp only [List.map_cons, List.sum_cons, hcat]; omega) hlocks
  obtain ⟨f1, f2⟩ := vx_frame hsame
  rw [hhp] at f1 f2
  have hWs : s.WarmedH U.vm := State.WarmedH.trans hW0 hW
  have hcl : s.vm.findClass cls = some ce.cls := by
    have h9 := hO.cls
    rw [hvm] at h9
    exact h9
  have hall : s.sameButNew ({ U with vm := s.vm } : State) locs mc ms := by
    subst hA
    obtain ⟨e1, e2⟩ := hsame
    rw [State.setFrames_setFrames] at e1
    have h2 : (T.setVm s.vm).sameButNew ({ U with vm := s.vm } : State) [] (0 + 1) (0 + 6) := ⟨e1, e2⟩
    have h3 := X.same.trans h2
    rw [List.append_nil] at h3
    exact h3.mono hc hs
  refine ⟨U, ?_, .threw T.heap.size, hrun, hend, Or.inr ⟨T.heap.size, rfl, cls, ce, locs, hx U hWs.alike f1 (fun q hq => f2 q hq (fun z hz => nomatch hz)), hce, hO.vm, hcl, hWs, hall, hf⟩⟩
  refine st1 _ ?_
  show Steps p.tables e below (T1.setTop { method := m, pc := pc + 3, locals := ls, stack := .ref T.heap.size :: rest, locked := none }) _
  jvm_step X₁.here [X₁.here.top, hexec, d3', Value.category]
  exact hsteps
/-- 'throw new E("text")': new; dup; ldc; invokespecial; athrow -/
theorem vx_throwS {cc : ByteArray} {pc : Nat} (hexec : p.tables.exec = Jvm.exec) (hb : c.code = cc) (hl : l.stackTraces = false) {own cls text : String} {names : List String} {ik is ic mc ms sa : Nat} {A : Nat → Prop}
    (hown : s.vm.findClass own = some m.cls) (hcls : Bundle.fit cls = true) (hnames : ∀ n ∈ names, Bundle.fit n = true)
    (hk : (Cond.classLink own ik cls).before args s = true) (hini : (Cond.initialized cls).before args s = true) (hstr : vk_R own is text sa s) (hat : ∀ w ∈ vx_atS own ic cls names, w.before args s = true)
    (hgood : ∀ w ∈ Cond.classLink own ik cls :: Cond.initialized cls :: vx_atS own ic cls names, vx_ot w = true)
    (hU : vx_Zq Bundle.tN "UNASSIGNED_STACK" Bundle.steD A s s.heap) (hN : vx_Zq Bundle.tN "SUPPRESSED_SENTINEL" Bundle.listD A s s.heap) (hS : va_S A s.heap H locs) (hsize : ls.size = c.maxLocals)
    (d0 : decode cc pc = .ok (.new ik, 3)) (d3 : decode cc (pc + 3) = .ok (.dup, 1)) (d4 : decode cc (pc + 4) = .ok (.ldc is, 2)) (d6 : decode cc (pc + 6) = .ok (.invokespecial ic, 3)) (d9 : decode cc (pc + 9) = .ok (.athrow, 1))
    (hout : ∀ x ∈ c.exceptionTable.toList, covers x (pc + 9) = false)
    (hRframes : names.length + 3 < R.frames) (hRlocals : (rest.map fun v => v.category).sum + (13 * (names.length + 1) + 43) ≤ R.locals) (hRcells : cells + 1 ≤ R.cells) (hRslots : slots + 6 ≤ R.slots) (hlocks : meth.locks = false)
    (hx : ∀ t : State, s.vm.Alike t.vm → H.size ≤ t.heap.size → (∀ q : Nat, q < H.size → t.heap[q]? = H[q]?) → XC cls s t)
    (hf : ∀ z ∈ locs, free z.base) (hc : cells + 1 ≤ mc) (hs : slots + 6 ≤ ms) :
    W p l e R s m args below meth c H locs cells slots (vx_MQ below Qc XC args s mc ms free) (F0 m pc ls rest) := by
  intro T hT X
  have htr : e.platform.stackTraces = false := (show e.platform.stackTraces = l.stackTraces by rw [X.admits.platform]).trans hl
  have Y := vx_rebase X (R' := { frames := R.frames, locals := R.locals, cells := 1, slots := 6 }) (Nat.le_refl _) (Nat.le_refl _) hRcells hRslots
  obtain ⟨s', hA⟩ : ∃ z, z = (T.setVm s.vm).setFrames (.invoking m args :: below) := ⟨_, rfl⟩
  rw [← hA] at Y
  have hvm : s'.vm = s.vm := by rw [hA]; rfl
  have hhp : s'.heap = H := by rw [hA]; exact hT
  have hW0 : s.WarmedH s'.vm := by rw [hvm]; exact State.WarmedH.refl s
  have hat' : ∀ w ∈ vx_atS own ic cls names, w.before args s' = true := fun w hw => vx_ot_at hW0 hvm.symm (hgood w (List.mem_cons_of_mem _ (List.mem_cons_of_mem _ hw))) (hat w hw)
  have hk' : (Cond.classLink own ik cls).before args s' = true := vx_ot_at hW0 hvm.symm (hgood _ List.mem_cons_self) hk
  have hini' : (Cond.initialized cls).before args s' = true := vx_ot_at hW0 hvm.symm (hgood _ (List.mem_cons_of_mem _ List.mem_cons_self)) hini
  have hU' : vx_Zq Bundle.tN "UNASSIGNED_STACK" Bundle.steD A s' s'.heap := by rw [hhp]; exact vx_Zq.moved hW0.alike (hU.kept hS.2.1)
  have hN' : vx_Zq Bundle.tN "SUPPRESSED_SENTINEL" Bundle.listD A s' s'.heap := by rw [hhp]; exact vx_Zq.moved hW0.alike (hN.kept hS.2.1)
  have h : ∀ w ∈ Bundle.ownAtoms own ic cls names, w.before args s' = true := vx_own hat' (vx_isRefq hU'.1) (vx_isRefq hN'.1) hU'.2.word hN'.2.word
  have hown' : s'.vm.findClass own = some m.cls := by rw [hvm]; exact hown
  have hins : (Cond.instantiable cls 6).before args s' = true := h _ (by simp [Bundle.ownAtoms])
  obtain ⟨vm₁, cX, kX, hfX, hkX, -, -, X₁, st1⟩ := Y.newCold hexec (own := own) (C := cls) (index := ik) (n := 6) hown' hk' hins hini'
    (g := F0 m pc ls rest) rfl (by rw [hb]; exact d0) (Nat.le_refl _) (Nat.le_refl _)
  generalize hT1 : (T.setVm vm₁).pushCell { cls := cX, slots := kX.instanceTypes.map defaultValue, vm := .none } = T1 at X₁ st1
  have hcat : (Value.ref T.heap.size).category = 1 := rfl
  have hcellA : T1.heap[T.heap.size]? = some (freshCell cX kX) := by rw [← hT1]; exact State.heap_pushCell_size _ _
  have d3' : decode c.code (pc + 3) = .ok (.dup, 1) := by rw [hb]; exact d3
  have d4' : decode c.code (pc + 4) = .ok (.ldc is, 2) := by rw [hb]; exact d4
  have hstr' : vk_R own is text sa s' := vk_R.warm hW0 hstr
  obtain ⟨U, hsteps, hrun, hend, hW, hsame, ce, hce, hO⟩ := X₁.ctorThrowS hexec htr (own := own) (cls := cls) (names := names) (ic := ic) hown' hcls hnames h (fun x hx => nomatch hx) hfX hkX hcellA (by rw [hhp, hT]; exact Nat.le_refl _) (msg := .ref sa) rfl
    (g := { method := m, pc := pc + 6, locals := ls, stack := .ref sa :: .ref T.heap.size :: .ref T.heap.size :: rest, locked := none }) rfl hsize rfl rfl (rest := rest) rfl
    (by rw [hb]; exact d6) (by rw [hb]; exact d9) hout hRframes (by simp only [List.map_cons, List.sum_cons, hcat]; omega) hlocks
  obtain ⟨f1, f2⟩ := vx_frame hsame
  rw [hhp] at f1 f2
  have hWs : s.WarmedH U.vm := State.WarmedH.trans hW0 hW
  have hcl : s.vm.findClass cls = some ce.cls := by
    have h9 := hO.cls
    rw [hvm] at h9
    exact h9
  have hall : s.sameButNew ({ U with vm := s.vm } : State) locs mc ms := by
    subst hA
    obtain ⟨e1, e2⟩ := hsame
    rw [State.setFrames_setFrames] at e1
    have h2 : (T.setVm s.vm).sameButNew ({ U with vm := s.vm } : State) [] (0 + 1) (0 + 6) := ⟨e1, e2⟩
    have h3 := X.same.trans h2
    rw [List.append_nil] at h3
    exact h3.mono hc hs
  refine ⟨U, ?_, .threw T.heap.size, hrun, hend, Or.inr ⟨T.heap.size, rfl, cls, ce, locs, hx U hWs.alike f1 (fun q hq => f2 q hq (fun z hz => nomatch hz)), hce, hO.vm, hcl, hWs, hall, hf⟩⟩
  refine st1 _ ?_
  show Steps p.tables e below (T1.setTop { method := m, pc := pc + 3, locals := ls, stack := .ref T.heap.size :: rest, locked := none }) _
  jvm_step X₁.here [X₁.here.top, hexec, d3', Value.category]
  exact X₁.ldcString hexec (own := own) (text := text) (index := is) (a := sa) hown' hstr'.1 hstr'.2
    (g := { method := m, pc := pc + 4, locals := ls, stack := .ref T.heap.size :: .ref T.heap.size :: rest, locked := none }) rfl d4' _ hsteps
/-- 'throw new E("text")', the text by a wide index -/
theorem vx_throwSW {cc : ByteArray} {pc : Nat} (hexec : p.tables.exec = Jvm.exec) (hb : c.code = cc) (hl : l.stackTraces = false) {own cls text : String} {names : List String} {ik is ic mc ms sa : Nat} {A : Nat → Prop}
    (hown : s.vm.findClass own = some m.cls) (hcls : Bundle.fit cls = true) (hnames : ∀ n ∈ names, Bundle.fit n = true)
    (hk : (Cond.classLink own ik cls).before args s = true) (hini : (Cond.initialized cls).before args s = true) (hstr : vk_R own is text sa s) (hat : ∀ w ∈ vx_atS own ic cls names, w.before args s = true)
    (hgood : ∀ w ∈ Cond.classLink own ik cls :: Cond.initialized cls :: vx_atS own ic cls names, vx_ot w = true)
    (hU : vx_Zq Bundle.tN "UNASSIGNED_STACK" Bundle.steD A s s.heap) (hN : vx_Zq Bundle.tN "SUPPRESSED_SENTINEL" Bundle.listD A s s.heap) (hS : va_S A s.heap H locs) (hsize : ls.size = c.maxLocals)
    (d0 : decode cc pc = .ok (.new ik, 3)) (d3 : decode cc (pc + 3) = .ok (.dup, 1)) (d4 : decode cc (pc + 4) = .ok (.ldc_w is, 3)) (d7 : decode cc (pc + 7) = .ok (.invokespecial ic, 3)) (d10 : decode cc (pc + 10) = .ok (.athrow, 1))
    (hout : ∀ x ∈ c.exceptionTable.toList, covers x (pc + 10) = false)
    (hRframes : names.length + 3 < R.frames) (hRlocals : (rest.map fun v => v.category).sum + (13 * (names.length + 1) + 43) ≤ R.locals) (hRcells : cells + 1 ≤ R.cells) (hRslots : slots + 6 ≤ R.slots) (hlocks : meth.locks = false)
    (hx : ∀ t : State, s.vm.Alike t.vm → H.size ≤ t.heap.size → (∀ q : Nat, q < H.size → t.heap[q]? = H[q]?) → XC cls s t)
    (hf : ∀ z ∈ locs, free z.base) (hc : cells + 1 ≤ mc) (hs : slots + 6 ≤ ms) :
    W p l e R s m args below meth c H locs cells slots (vx_MQ below Qc XC args s mc ms free) (F0 m pc ls rest) := by
  intro T hT X
  have htr : e.platform.stackTraces = false := (show e.platform.stackTraces = l.stackTraces by rw [X.admits.platform]).trans hl
  have Y := vx_rebase X (R' := { frames := R.frames, locals := R.locals, cells := 1, slots := 6 }) (Nat.le_refl _) (Nat.le_refl _) hRcells hRslots
  obtain ⟨s', hA⟩ : ∃ z, z = (T.setVm s.vm).setFrames (.invoking m args :: below) := ⟨_, rfl⟩
  rw [← hA] at Y
  have hvm : s'.vm = s.vm := by rw [hA]; rfl
  have hhp : s'.heap = H := by rw [hA]; exact hT
  have hW0 : s.WarmedH s'.vm := by rw [hvm]; exact State.WarmedH.refl s
  have hat' : ∀ w ∈ vx_atS own ic cls names, w.before args s' = true := fun w hw => vx_ot_at hW0 hvm.symm (hgood w (List.mem_cons_of_mem _ (List.mem_cons_of_mem _ hw))) (hat w hw)
  have hk' : (Cond.classLink own ik cls).before args s' = true := vx_ot_at hW0 hvm.symm (hgood _ List.mem_cons_self) hk
  have hini' : (Cond.initialized cls).before args s' = true := vx_ot_at hW0 hvm.symm (hgood _ (List.mem_cons_of_mem _ List.mem_cons_self)) hini
  have hU' : vx_Zq Bundle.tN "UNASSIGNED_STACK" Bundle.steD A s' s'.heap := by rw [hhp]; exact vx_Zq.moved hW0.alike (hU.kept hS.2.1)
  have hN' : vx_Zq Bundle.tN "SUPPRESSED_SENTINEL" Bundle.listD A s' s'.heap := by rw [hhp]; exact vx_Zq.moved hW0.alike (hN.kept hS.2.1)
  have h : ∀ w ∈ Bundle.ownAtoms own ic cls names, w.before args s' = true := vx_own hat' (vx_isRefq hU'.1) (vx_isRefq hN'.1) hU'.2.word hN'.2.word
  have hown' : s'.vm.findClass own = some m.cls := by rw [hvm]; exact hown
  have hins : (Cond.instantiable cls 6).before args s' = true := h _ (by simp [Bundle.ownAtoms])
  obtain ⟨vm₁, cX, kX, hfX, hkX, -, -, X₁, st1⟩ := Y.newCold hexec (own := own) (C := cls) (index := ik) (n := 6) hown' hk' hins hini'
    (g := F0 m pc ls rest) rfl (by rw [hb]; exact d0) (Nat.le_refl _) (Nat.le_refl _)
  generalize hT1 : (T.setVm vm₁).pushCell { cls := cX, slots := kX.instanceTypes.map defaultValue, vm := .none } = T1 at X₁ st1
  have hcat : (Value.ref T.heap.size).category = 1 := rfl
  have hcellA : T1.heap[T.heap.size]? = some (freshCell cX kX) := by rw [← hT1]; exact State.heap_pushCell_size _ _
  have d3' : decode c.code (pc + 3) = .ok (.dup, 1) := by rw [hb]; exact d3
  have d4' : decode c.code (pc + 4) = .ok (.ldc_w is, 3) := by rw [hb]; exact d4
  have hstr' : vk_R own is text sa s' := vk_R.warm hW0 hstr
  obtain ⟨U, hsteps, hrun, hend, hW, hsame, ce, hce, hO⟩ := X₁.ctorThrowS hexec htr (own := own) (cls := cls) (names := names) (ic := ic) hown' hcls hnames h (fun x hx => nomatch hx) hfX hkX hcellA (by rw [hhp, hT]; exact Nat.le_refl _) (msg := .ref sa) rfl
    (g := { method := m, pc := pc + 7, locals := ls, stack := .ref sa :: .ref T.heap.size :: .ref T.heap.size :: rest, locked := none }) rfl hsize rfl rfl (rest := rest) rfl
    (by rw [hb]; exact d7) (by rw [hb]; exact d10) hout hRframes (by simp only [List.map_cons, List.sum_cons, hcat]; omega) hlocks
  obtain ⟨f1, f2⟩ := vx_frame hsame
  rw [hhp] at f1 f2
  have hWs : s.WarmedH U.vm := State.WarmedH.trans hW0 hW
  have hcl : s.vm.findClass cls = some ce.cls := by
    have h9 := hO.cls
    rw [hvm] at h9
    exact h9
  have hall : s.sameButNew ({ U with vm := s.vm } : State) locs mc ms := by
    subst hA
    obtain ⟨e1, e2⟩ := hsame
    rw [State.setFrames_setFrames] at e1
    have h2 : (T.setVm s.vm).sameButNew ({ U with vm := s.vm } : State) [] (0 + 1) (0 + 6) := ⟨e1, e2⟩
    have h3 := X.same.trans h2
    rw [List.append_nil] at h3
    exact h3.mono hc hs
  refine ⟨U, ?_, .threw T.heap.size, hrun, hend, Or.inr ⟨T.heap.size, rfl, cls, ce, locs, hx U hWs.alike f1 (fun q hq => f2 q hq (fun z hz => nomatch hz)), hce, hO.vm, hcl, hWs, hall, hf⟩⟩
  refine st1 _ ?_
  show Steps p.tables e below (T1.setTop { method := m, pc := pc + 3, locals := ls, stack := .ref T.heap.size :: rest, locked := none }) _
  jvm_step X₁.here [X₁.here.top, hexec, d3', Value.category]
  exact X₁.ldcStringW hexec (own := own) (text := text) (index := is) (a := sa) hown' hstr'.1 hstr'.2
    (g := { method := m, pc := pc + 4, locals := ls, stack := .ref T.heap.size :: .ref T.heap.size :: rest, locked := none }) rfl d4' _ hsteps
end Ends
section Bodies
variable {l : Launch}
theorem vx_ofW {y : MethodName} {ws ws' : List Cond} {rm : Room} {Pc : Array Value → State → Prop} {Qc : Array Value → State → Outcome → State → Prop} {XC : String → State → State → Prop} {mc ms : Nat} {free : Addr → Prop} {cc : ByteArray} {maxL : Nat} {ret : Option FieldType}
    (hy : plainName y.cls = true) (hw : ws = Cond.code y cc maxL ret :: ws')
    (body : ∀ p e s m args below meth c s₁, BodyLoose p l y (headSpec ws rm) cc maxL ret e s m args below meth c s₁ → c.maxLocals = maxL → (∀ x ∈ c.exceptionTable.toList, False) → Pc args s →
      W p l e (headSpec ws rm).room s m args below meth c s.heap [] 0 0 (vx_MQ below Qc XC args s mc ms free) (entryFrame m args maxL)) : vx_Met l y ws rm Pc Qc XC mc ms free := by
  refine MetFree.of_bodyS (code := cc) (maxLocals := maxL) (ret := ret) hy ?_ ?_
  · intro args s m h hn
    obtain ⟨meth, c, h1, h2, h3, h4, h5, h6, -, -⟩ := Cond.code_spec hn (atoms_spec (ws := ws) h _ (by rw [hw]; exact List.mem_cons_self))
    exact ⟨meth, c, h1, h2, h3, h4, h5, h6⟩
  · intro p e s m args below meth c s₁ B hml hP _
    have hh0 : s₁.heap = s.heap := by rw [B.state]; rfl
    have ht : ∀ x ∈ c.exceptionTable.toList, False := by
      obtain ⟨meth9, c9, h1, h2, -, -, -, -, h7, -⟩ := Cond.code_spec B.named (atoms_spec (ws := ws) B.pre _ (by rw [hw]; exact List.mem_cons_self))
      cases Option.some.inj (h1.symm.trans B.method)
      cases Option.some.inj (h2.symm.trans (Stand.of_body B).code)
      intro x hx
      rw [Array.isEmpty_iff.mp h7] at hx
      cases hx
    obtain ⟨t, a1, o, b1, b2, b3⟩ := body p e s m args below meth c s₁ B hml ht hP s₁ hh0 (Stand.of_body B)
    exact ⟨t, o, a1, b1, b2, b3⟩
/-- the table of a body with handlers -/
theorem vx_table {p : Program} {x y : MethodName} {S : Spec} {cc bytes : ByteArray} {maxL maxL' : Nat} {ret ret' : Option FieldType} {e : Env} {s s₁ : State} {m : MethodId} {args : Array Value} {below : List Frame} {meth : Method} {c : Code} {hh : List (Nat × Nat × Nat × Nat)}
    (B : BodyLoose p l y S cc maxL ret e s m args below meth c s₁) (h : (Cond.codeWith y bytes maxL' ret' hh).before args s = true) : c.exceptionTable.toList = tableOf hh := by
  obtain ⟨m9, meth9, c9, hn9, h1, h2, -, -, h6, -⟩ := Cond.codeWith_spec h
  cases Option.some.inj (hn9.symm.trans B.named)
  cases Option.some.inj (h1.symm.trans B.method)
  cases Option.some.inj (h2.symm.trans (Stand.of_body B).code)
  rw [← h6, table_eq]
end Bodies
end VXA
/-! ===== END ===== -/
/-! ===== BEGIN a static call of a method with an exception table ===== -/
section VXS
variable {p : Program} {l : Launch} {e : Env} {R : Room} {s : State} {m : MethodId} {args : Array Value} {below : List Frame} {meth : Method} {c : Code} {T : State} {H : Heap} {locs : List Loc} {cells slots : Nat}
abbrev vx_CSW (R : Room) (s : State) (args : Array Value) (own : String) (index : Nat) (y : MethodName) (bytes : ByteArray) (maxL : Nat) (ret : Option FieldType) (hh : List (Nat × Nat × Nat × Nat)) (ws : List Cond) (rm : Room) (mc ms n : Nat) : Prop :=
  (rm.cells = mc ∧ rm.slots = ms ∧ rm.frames + 1 ≤ R.frames ∧ 8 + (maxL + 11) + rm.locals ≤ R.locals ∧ (∀ w ∈ ws, ∀ (a' : Array Value) (U : State), s.WarmedH U.vm → w.before a' U = true) ∧ Cond.codeWith y bytes maxL ret hh ∈ ws) ∧
  (Cond.codeWith y bytes maxL ret hh).before args s = true ∧ (Cond.initialized y.cls).before args s = true ∧ (y.cls ≠ "java/lang/invoke/MethodHandle" ∧ y.cls ≠ "java/lang/invoke/VarHandle") ∧
  (∀ sig, parseMethodDescriptor y.desc = some sig → n = sig.parameters.length) ∧ (Cond.methodLink own index y).before args s = true ∧ (Cond.static y).before args s = true
theorem vx_cwSW {own : String} {index maxL mc ms : Nat} {y : MethodName} {bytes : ByteArray} {ret : Option FieldType} {hh : List (Nat × Nat × Nat × Nat)} {Ts ws ws' : List Cond} {rm : Room} (n : Nat) (ht : ∀ w ∈ Ts, w.before args s = true) (hT : GoodIn Ts (va_wsS own index y ws)) (hw : ws = Cond.codeWith y bytes maxL ret hh :: ws') (hrc : rm.cells = mc) (hrs : rm.slots = ms)
    (hd : y.cls ≠ "java/lang/invoke/MethodHandle" ∧ y.cls ≠ "java/lang/invoke/VarHandle" ∧ (parseMethodDescriptor y.desc).map (fun d => d.parameters.length) = some n) (hR : rm.frames + 1 ≤ R.frames ∧ 8 + (maxL + 11) + rm.locals ≤ R.locals) :
    vx_CSW R s args own index y bytes maxL ret hh ws rm mc ms n := by
  have ok : ∀ w ∈ va_wsS own index y ws, w.before args s = true := fun w h => ht w (hT w h).1
  have hG : GoodIn Ts ws := fun w h => hT w (by unfold va_wsS; exact List.mem_append_right _ h)
  have hc : Cond.codeWith y bytes maxL ret hh ∈ ws := by rw [hw]; exact List.mem_cons_self
  refine ⟨⟨hrc, hrs, hR.1, hR.2, pay_in ht hG, hc⟩, ht _ (hG _ hc).1, ok _ (by simp [va_wsS]), ⟨hd.1, hd.2.1⟩, fun sig h => ?_, ok _ (by simp [va_wsS]), ok _ (by simp [va_wsS])⟩
  have h2 := hd.2.2
  rw [h] at h2
  exact (Option.some.inj h2).symm
theorem vx_callSW (X : Stand p l e R s m args below meth c T locs cells slots) (hexec : p.tables.exec = Jvm.exec) {own : String} {index : Nat} {y : MethodName} {bytes : ByteArray} {maxL : Nat} {ret : Option FieldType} {hh : List (Nat × Nat × Nat × Nat)}
    (hown : s.vm.findClass own = some m.cls) (hlink : (Cond.methodLink own index y).before args s = true) (hstat : (Cond.static y).before args s = true) (hinit : (Cond.initialized y.cls).before args s = true)
    (hcode : (Cond.codeWith y bytes maxL ret hh).before args s = true) (hy : y.cls ≠ "java/lang/invoke/MethodHandle" ∧ y.cls ≠ "java/lang/invoke/VarHandle")
    {W9 : Nat} {Pre : Pt → Array Value → Prop} {Post : Pt → Array Value → Option Value → Pt → Prop} (hK : Back l R p e below s args y 3 W9 Pre Post)
    {g : JFrame} (hg : g.method = m) (hsize : g.locals.size = c.maxLocals) {argsL rest : List Value} (hlen : ∀ sig, parseMethodDescriptor y.desc = some sig → argsL.length = sig.parameters.length)
    (hstack : g.stack = argsL.reverse ++ rest) (hW : 2 * g.monitorRoom + (rest.map fun v => v.category).sum ≤ W9) (hdg : decode c.code g.pc = .ok (.invokestatic index, 3))
    (hpre : ∀ vm₁, s.WarmedH vm₁ → Pre ⟨T.setVm vm₁, locs, cells, slots⟩ argsL.toArray) :
    ∃ (v : Option Value) (vm₁ : Vm) (B : Pt), s.WarmedH vm₁ ∧ Stand p l e R s m args below meth c B.U B.locs B.cells B.slots ∧ Post ⟨T.setVm vm₁, locs, cells, slots⟩ argsL.toArray v B ∧
      ∀ target, Steps p.tables e below (B.U.setTop { g with pc := g.pc + 3, stack := v.toList ++ rest }) target → Steps p.tables e below (T.setTop g) target := by
  obtain ⟨mk, methM, cM, hnamed, hmethM, -, -, -, -, -, -, hsigM⟩ := Cond.codeWith_spec hcode
  have hstatic : methM.isStatic = true := Cond.static_spec hnamed hmethM hstat
  obtain ⟨kP, hkP, -⟩ := className_of_methodNamed hnamed
  have hinitP : kP.init = .initialized := Cond.initialized_spec (findClass_of_methodNamed hnamed) hkP hinit
  obtain ⟨vm₁, X₁, hstep₁⟩ := X.invokestatic hexec hown hlink hnamed hmethM hstatic hkP hinitP hy (g := g) hg (argsL := argsL) (rest := rest) (hlen _ hsigM) hstack hdg
  obtain ⟨v, B, X', hpost, hsteps⟩ := hK m meth c ⟨T.setVm vm₁, locs, cells, slots⟩ { g with stack := rest } (.invokestatic index) mk argsL.toArray X₁ hg hsize hdg hW (X₁.named hnamed) (hpre vm₁ X₁.warmed)
  exact ⟨v, vm₁, B, X₁.warmed, X', hpost, fun target h => hstep₁ _ fun acts => by rw [doInvoke_state]; exact hsteps.trans h⟩
theorem vx_runSW {y : MethodName} {bytes cc : ByteArray} {maxL nL mc ms n index : Nat} {ret : Option FieldType} {hh : List (Nat × Nat × Nat × Nat)} {ws : List Cond} {rm : Room} {Pc : Array Value → State → Prop} {Qc : Array Value → State → Outcome → State → Prop} {free : Addr → Prop} {Ts : List Cond} {own : String} {As rest : List Value} {g : JFrame}
    (S : CallFix p m c cc nL s args Ts own) (hM : Met l y ws rm Pc Qc mc ms free) (cw : vx_CSW R s args own index y bytes maxL ret hh ws rm mc ms n) (hp : PreS s H Pc As)
    (hg : g.method = m) (hn : As.length = n) (hsize : g.locals.size = nL) (hstack : g.stack = As.reverse ++ rest) (hW : 2 * g.monitorRoom + (rest.map fun v => v.category).sum ≤ 8) (hdg : decode cc g.pc = .ok (.invokestatic index, 3)) (hf : cells + mc ≤ R.cells ∧ slots + ms ≤ R.slots) :
    va_Run p l e R s m args below meth c H locs cells slots mc ms g rest (Qc As.toArray) (free) := by
  obtain ⟨⟨hrc, hrs, hfr, hlo, hws, hcw⟩, hcode, hini, hy, hlen, hl, hstt⟩ := cw
  have hK : Back l R p e below s args y 3 8 (PreOf R mc ms Pc) (PostOf Qc mc ms free) := va_backW (hh := hh) (bytes := bytes) (maxL := maxL) (ret := ret) hM hp.1 hrc hrs hfr hlo hws hcw (fun a' U hW => word_at hW (Or.inl (by first | rfl | simp [Cond.onTables, Cond.keeps, Cond.steady])) hini)
  obtain ⟨hx, hb, hml, ho, -⟩ := S
  intro T hT X
  obtain ⟨v, vm₁, ⟨U', l2, c2, s2⟩, hW₁, X', ⟨g', mk, t, L, e1, e2, hq, h1, hL, h2, h3⟩, st⟩ := vx_callSW X hx (hh := hh) (bytes := bytes) (maxL := maxL) (ret := ret) ho hl hstt hini hcode hy hK hg (hsize.trans hml.symm) (argsL := As) (rest := rest) (fun sig h => hn.trans (hlen sig h)) hstack hW (by rw [hb]; exact hdg)
    (fun vm₁ hW₁ => ⟨hf.1, hf.2, hp.2 (T.setVm vm₁) hT hW₁⟩)
  dsimp only [Pt.U, Pt.locs, Pt.cells, Pt.slots] at X' e1 e2 h1 h2 h3 st
  subst h1; subst h2; subst h3
  exact ⟨v, (T.setVm vm₁).calling g' mk As.toArray, t, U', L, hT, X', hL, e1, e2, hq, st⟩
/-- not caught here, past rows that name other classes: it goes on to the caller -/
theorem vx_outP {p : Program} {l : Launch} {e : Env} {R : Room} {s : State} {m : MethodId} {args : Array Value} {below : List Frame} {meth : Method} {c : Code} {H : Heap} {locs : List Loc} {cells slots : Nat} {free : Addr → Prop} {ls : Array Slot} {rest : List Value} {Qc : Array Value → State → Outcome → State → Prop} {XC : String → State → State → Prop}
    {pc : Nat} {own E : String} {ce : Cell} {q : Addr} {mc ms : Nat} (hown : s.vm.findClass own = some m.cls) (hlocks : meth.locks = false)
    (hpass : ∀ z ∈ c.exceptionTable.toList, covers z pc = false ∨ (z.catchType ≠ 0 ∧ ∃ nm : String, (Cond.classLink own z.catchType nm).before args s = true ∧ va_Nc E nm s)) (hcell : H[q]? = some ce) (hv : ce.vm = .none) (hcl : s.vm.findClass E = some ce.cls)
    (hx : ∀ t : State, t.heap = H → s.vm.Alike t.vm → XC E s t) (hf : ∀ z ∈ locs, free z.base) (hc : cells ≤ mc) (hs : slots ≤ ms) :
    vx_W p l e R s m args below meth c H locs cells slots (vx_MQ below Qc XC args s mc ms free) (F0 m pc ls rest) q := by
  intro T hT X
  have hpl : e.platform.magicAccessors = ({} : Platform).magicAccessors := by rw [X.admits.platform]
  obtain ⟨vm', hW', X', st⟩ := X.outThrough hlocks q (g := F0 m pc ls rest) rfl rfl rfl (cell := ce) (by rw [hT]; exact hcell) (by rw [hv]; rfl)
    (by obtain ⟨k9, h9, -⟩ := Vm.findClass_spec hcl; exact ⟨k9, h9⟩) (fun z hz => by
      rcases hpass z hz with h | ⟨hz0, nm, hl1, hn1⟩
      · exact Or.inl h
      · obtain ⟨c6, hc6, hcl6⟩ := Cond.classLink_spec hown hl1 e.platform hpl
        obtain ⟨a8, b8, h1, h2, h3⟩ := hn1
        cases Option.some.inj (h1.symm.trans hcl)
        cases Option.some.inj (h2.symm.trans hc6)
        exact Or.inr ⟨hz0, _, hcl6, h3⟩)
  obtain ⟨g₀, hfr⟩ := X'.frames_eq
  have hcell9 : ((T.setVm vm').setFrames (.throwing q :: below)).heap[q]? = some ce := by
    show T.heap[q]? = some ce
    rw [hT]; exact hcell
  have hend : Ended ((T.setVm vm').setFrames (.throwing q :: below)) below (.threw q) := State.frames_setFrames _ (State.cur_lt_of_frames hfr)
  refine ⟨(T.setVm vm').setFrames (.throwing q :: below), ?_, .threw q, X'.here.running, hend, Or.inr ⟨q, rfl, E, ce, locs, hx _ hT (X'.ends _).1.alike, hcell9, hv, hcl, (X'.ends _).1, (X'.ends _).2.mono hc hs, hf⟩⟩
  rw [X.pushThrowing_eq]
  exact st
/-- a thing of a world lies in the heap -/
theorem vx_lt {D : va_G} {cl : List vw_C} {ws : va_W} {H1 : Heap} (h : va_P D cl ws H1) {k : Nat} {q : Nat × va_E} (hk : ws[k]? = some q) : q.1 < H1.size := (h k q hk).lt
end VXS
/-! ===== END ===== -/
/-! ===== BEGIN methods with a table of their own: called by a name, returning or throwing ===== -/
section VXH
/-! vx_backW, vx_callVX, vx_callSX, vx_callVW, vx_runVW, vx_runVX, vx_runSX, vx_ofWH follow the same proofs as their sisters above (Free/Laws.lean, Shelf42/LK1.lean); vx_outP calls Shelf42/NT130.lean (outThrough). -/
section
variable {l : Launch} {R : Room} {p : Program} {e : Env} {below : List Frame} {s : State} {sargs : Array Value} {y : MethodName} {len W9 : Nat}
theorem vx_backW {ws : List Cond} {rm : Room} {Pc : Array Value → State → Prop} {Qc : Array Value → State → Outcome → State → Prop} {XC : String → State → State → Prop} {mc ms : Nat} {free : Addr → Prop} {bytes : ByteArray} {maxL : Nat} {ret : Option FieldType} {hh : List (Nat × Nat × Nat × Nat)}
    (hM : vx_Met l y ws rm Pc Qc XC mc ms free) (hblind : FrameBlind Pc) (hrc : rm.cells = mc) (hrs : rm.slots = ms)
    (hframes : rm.frames + 1 ≤ R.frames) (hlocals : W9 + (maxL + 11) + rm.locals ≤ R.locals)
    (hws : ∀ w ∈ ws, ∀ a' U, s.WarmedH U.vm → w.before a' U = true) (hcode : Cond.codeWith y bytes maxL ret hh ∈ ws) (hinit : ∀ a' U, s.WarmedH U.vm → (Cond.initialized y.cls).before a' U = true) :
    vx_Back l R p e below s sargs y len W9 (PreOf R mc ms Pc) (PostOf Qc mc ms free) (vx_Post XC mc ms free) := by
  intro m meth c A g ig mk a X hg hsize hdg hW hn hp
  have h1 : (headSpec ws rm).pre.before a A.U = true := atoms_intro fun w hw => hws w hw _ _ X.warmed
  have h2 : (Cond.codeWith y bytes maxL ret hh).before a A.U = true := hws _ hcode _ _ X.warmed
  have h3 : (Cond.initialized y.cls).before a A.U = true := hinit _ _ X.warmed
  have h4 : A.cells + (headSpec ws rm).room.cells ≤ R.cells := by rw [show (headSpec ws rm).room.cells = mc from hrc]; exact hp.1
  have h5 : A.slots + (headSpec ws rm).room.slots ≤ R.slots := by rw [show (headSpec ws rm).room.slots = ms from hrs]; exact hp.2.1
  have hPc : Pc a (A.U.calling g mk a) := hblind _ _ _ _ hp.2.2
  obtain ⟨U, Ls, c0, s0⟩ := A
  dsimp only [Pt.U, Pt.locs, Pt.cells, Pt.slots] at h1 h2 h3 h4 h5 X hn hPc ⊢
  obtain ⟨m9, methY, cY, hn9, hmY, hcY, -, hlY, -⟩ := Cond.codeWith_spec h2
  cases Option.some.inj (hn9.symm.trans hn)
  obtain ⟨kY, hkY, -⟩ := className_of_methodNamed hn
  have hinitY : kY.init = .initialized := Cond.initialized_spec (findClass_of_methodNamed hn) hkY h3
  have h : At U g.method c below := by rw [hg]; exact X.here
  have hlocals9 : W9 + (maxL + 11) + (headSpec ws rm).room.locals ≤ R.locals := hlocals
  have happ : (headSpec ws rm).appliesLoose y e.platform (U.calling g mk a) = true :=
    Spec.appliesLoose_calling (g := g) h hdg hn hkY hinitY
      (X.room_calling (g := g) (R' := (headSpec ws rm).room) hsize hmY hcY hframes (by rw [hlY]; omega) h4 h5) h1
  obtain ⟨mid, hmid⟩ := h.above
  have hfr : (U.setTop g).frames = (.java g :: mid) ++ below := by rw [State.frames_setTop' g h.top, hmid]; rfl
  obtain ⟨o, s₂, hsteps, -, hend, hq⟩ := Steps.callFree hM p X.admits X.cas X.clock (acts := []) hfr happ hPc trivial
  have hq' : vx_Q Qc XC mc ms free a (U.calling g mk a) o s₂ := hq
  rw [State.frames_setTop' g h.top] at hend
  obtain ⟨g₀, hg0⟩ := Option.isSome_iff_exists.mp h.top
  obtain ⟨r, hr⟩ := State.topJava?_eq_some.mp hg0
  have hr' : (({ U with heap := s₂.heap, slotsUsed := s₂.slotsUsed } : State).setVm s₂.vm).frames = .java g₀ :: r := hr
  rcases hq' with ⟨hqc, L, hfe, hL⟩ | ⟨q, rfl, E, ce, L, hx, hce, hcv, hcl, hW₂, hsm, hL⟩
  · obtain ⟨⟨v, rfl⟩, hW₂, e2, q2, q3, q4, q5, q6⟩ := id hfe
    have e3 : s₂ = ({ (U.calling g mk a).setFrames s₂.frames with heap := s₂.heap, slotsUsed := s₂.slotsUsed } : State).setVm s₂.vm := by
      have : s₂ = ({ s₂ with vm := (U.calling g mk a).vm } : State).setVm s₂.vm := rfl
      rw [e2] at this
      exact this
    obtain ⟨c₂, i₂, len₂, hc₂, hd₂, hf₂⟩ := hend
    have hW' : U.WarmedH s₂.vm := hW₂
    have hcc : c₂ = c := by
      have h1 : s₂.code? g.method = U.code? g.method := by
        rw [State.code?_eq, State.code?_eq, hW'.alike.method?]
      exact Option.some.inj (hc₂.symm.trans (h1.trans h.code))
    subst hcc
    have hlen : len₂ = len := by rw [hdg] at hd₂; cases hd₂; rfl
    subst hlen
    have hs₂ : s₂ = (({ U with heap := s₂.heap, slotsUsed := s₂.slotsUsed } : State).setVm s₂.vm).setTop { g with pc := g.pc + len₂, stack := v.toList ++ g.stack } := by
      refine e3.trans ?_
      rw [hf₂, State.calling_eq h.top, State.setFrames_setFrames, State.setTop_of_frames _ hr', hr]
      rfl
    have hsame : U.sameButNew ({ U with heap := s₂.heap, slotsUsed := s₂.slotsUsed } : State) L mc ms := by
      refine ⟨?_, q2, q3, q4, q5, q6⟩
      obtain ⟨t, ht, -⟩ := State.frames_cons hr
      show ({ U with heap := s₂.heap, slotsUsed := s₂.slotsUsed } : State) = { U.setFrames U.frames with heap := s₂.heap, slotsUsed := s₂.slotsUsed }
      rw [State.setFrames_self ht]
    subst hg
    refine Or.inl ⟨v, ⟨(({ U with heap := s₂.heap, slotsUsed := s₂.slotsUsed } : State).setVm s₂.vm), Ls ++ L, c0 + mc, s0 + ms⟩,
      ⟨X.admits, X.cas, X.clock, X.frames, X.room, X.hears, X.method, X.code, (X.here.setHeapUsed s₂.heap s₂.slotsUsed).setVm hW'.alike, X.tail, State.WarmedH.trans X.warmed hW', X.limits, X.bytes, X.same.trans (hsame.setVm s.vm)⟩,
      ⟨g, mk, s₂, L, rfl, rfl, hqc, rfl, hL, rfl, rfl⟩, ?_⟩
    show Steps p.tables e below _ ((({ U with heap := s₂.heap, slotsUsed := s₂.slotsUsed } : State).setVm s₂.vm).setTop { g with pc := g.pc + len₂, stack := v.toList ++ g.stack })
    rw [← hs₂]
    exact hsteps
  · obtain ⟨e2, q2, q3, q4, q5, q6⟩ := id hsm
    have e3 : s₂ = ({ (U.calling g mk a).setFrames s₂.frames with heap := s₂.heap, slotsUsed := s₂.slotsUsed } : State).setVm s₂.vm := by
      have : s₂ = ({ s₂ with vm := (U.calling g mk a).vm } : State).setVm s₂.vm := rfl
      rw [e2] at this
      exact this
    have hf₂ : s₂.frames = .throwing q :: .java g :: U.frames.tail := hend
    have hW' : U.WarmedH s₂.vm := hW₂
    have hs₂ : s₂ = ((({ U with heap := s₂.heap, slotsUsed := s₂.slotsUsed } : State).setVm s₂.vm).setTop g).pushFrame (.throwing q) := by
      refine e3.trans ?_
      rw [hf₂, State.calling_eq h.top, State.setFrames_setFrames, State.pushFrame, State.frames_setTop _ hr', State.setTop_of_frames _ hr', State.setFrames_setFrames, hr]
      rfl
    have hsame : U.sameButNew ({ U with heap := s₂.heap, slotsUsed := s₂.slotsUsed } : State) L mc ms := by
      refine ⟨?_, q2, q3, q4, q5, q6⟩
      obtain ⟨t, ht, -⟩ := State.frames_cons hr
      show ({ U with heap := s₂.heap, slotsUsed := s₂.slotsUsed } : State) = { U.setFrames U.frames with heap := s₂.heap, slotsUsed := s₂.slotsUsed }
      rw [State.setFrames_self ht]
    subst hg
    refine Or.inr ⟨q, ⟨(({ U with heap := s₂.heap, slotsUsed := s₂.slotsUsed } : State).setVm s₂.vm), Ls ++ L, c0 + mc, s0 + ms⟩,
      ⟨X.admits, X.cas, X.clock, X.frames, X.room, X.hears, X.method, X.code, (X.here.setHeapUsed s₂.heap s₂.slotsUsed).setVm hW'.alike, X.tail, State.WarmedH.trans X.warmed hW', X.limits, X.bytes, X.same.trans (hsame.setVm s.vm)⟩,
      ⟨g, mk, s₂, L, E, ce, rfl, rfl, hx, hce, hcv, hcl, rfl, hL, rfl, rfl⟩, ?_⟩
    show Steps p.tables e below _ (((({ U with heap := s₂.heap, slotsUsed := s₂.slotsUsed } : State).setVm s₂.vm).setTop g).pushFrame (.throwing q))
    rw [← hs₂]
    exact hsteps
end
variable {p : Program} {l : Launch} {e : Env} {R : Room} {s : State} {m : MethodId} {args : Array Value} {below : List Frame} {meth : Method} {c : Code} {T : State} {H : Heap} {locs : List Loc} {cells slots : Nat}
theorem vx_callVX (X : Stand p l e R s m args below meth c T locs cells slots) (hexec : p.tables.exec = Jvm.exec) {own C : String} {index : Nat} {y : MethodName} {bytes : ByteArray} {maxL : Nat} {ret : Option FieldType} {hh : List (Nat × Nat × Nat × Nat)}
    (hown : s.vm.findClass own = some m.cls) (hlink : (Cond.methodLink own index y).before args s = true) (hinst : (Cond.instanceMethod y).before args s = true) (hsel : (Cond.selects C y y).before args s = true)
    (hcode : (Cond.codeWith y bytes maxL ret hh).before args s = true) (hy : y.cls ≠ "java/lang/invoke/MethodHandle" ∧ y.cls ≠ "java/lang/invoke/VarHandle")
    {W9 : Nat} {Pre : Pt → Array Value → Prop} {Post : Pt → Array Value → Option Value → Pt → Prop} {PostX : Pt → Array Value → Addr → Pt → Prop} (hK : vx_Back l R p e below s args y 3 W9 Pre Post PostX)
    {b : Addr} {cellB : Cell} (hcell : T.heap[b]? = some cellB) (hobj : cellB.vm.isStatics = false) (hcls : s.vm.findClass C = some cellB.cls)
    {g : JFrame} (hg : g.method = m) (hsize : g.locals.size = c.maxLocals) {argsL rest : List Value} (hlen : ∀ sig, parseMethodDescriptor y.desc = some sig → argsL.length = sig.parameters.length)
    (hstack : g.stack = argsL.reverse ++ .ref b :: rest) (hW : 2 * g.monitorRoom + (rest.map fun v => v.category).sum ≤ W9) (hdg : decode c.code g.pc = .ok (.invokevirtual index, 3))
    (hpre : ∀ vm₁, s.WarmedH vm₁ → Pre ⟨T.setVm vm₁, locs, cells, slots⟩ (Value.ref b :: argsL).toArray) :
    (∃ (v : Option Value) (vm₁ : Vm) (B : Pt), s.WarmedH vm₁ ∧ Stand p l e R s m args below meth c B.U B.locs B.cells B.slots ∧ Post ⟨T.setVm vm₁, locs, cells, slots⟩ (Value.ref b :: argsL).toArray v B ∧
      ∀ target, Steps p.tables e below (B.U.setTop { g with pc := g.pc + 3, stack := v.toList ++ rest }) target → Steps p.tables e below (T.setTop g) target) ∨
    (∃ (q : Addr) (vm₁ : Vm) (B : Pt), s.WarmedH vm₁ ∧ Stand p l e R s m args below meth c B.U B.locs B.cells B.slots ∧ PostX ⟨T.setVm vm₁, locs, cells, slots⟩ (Value.ref b :: argsL).toArray q B ∧
      Steps p.tables e below (T.setTop g) ((B.U.setTop { g with stack := rest }).pushFrame (.throwing q))) := by
  obtain ⟨mk, methM, hnamed, hmethM, hstM, habM⟩ := Cond.instanceMethod_spec hinst
  obtain ⟨m8, methM', cM, hn8, hmethM', -, -, -, -, -, -, hsigM⟩ := Cond.codeWith_spec hcode
  cases Option.some.inj (hn8.symm.trans hnamed)
  cases hmethM.symm.trans hmethM'
  obtain ⟨c2, r2, m2, q1, q2, q3, q4, kP, hkP, hkPi⟩ := Cond.selects_spec hsel
  cases hcls.symm.trans q1
  cases (State.methodFound?_of_named hnamed hy).symm.trans q2
  cases hnamed.symm.trans q3
  have hselP : selectMethod e.platform s.vm cellB.cls mk = .method mk := by rw [Launch.admits_selectMethod X.admits]; exact q4
  obtain ⟨vm₁, X₁, hstep₁⟩ := X.invokevirtual hexec hown hlink hnamed hmethM hstM hkP hkPi hy (a := b) (cell := cellB) hcell
    (fun z h => by rw [h] at hobj; cases hobj) hselP hmethM habM hkP hkPi (g := g) hg (argsL := argsL) (rest := rest) (hlen _ hsigM) hstack hdg
  rcases hK m meth c ⟨T.setVm vm₁, locs, cells, slots⟩ { g with stack := rest } (.invokevirtual index) mk (Value.ref b :: argsL).toArray X₁ hg hsize hdg hW (X₁.named hnamed) (hpre vm₁ X₁.warmed) with ⟨v, B, X', hpost, hsteps⟩ | ⟨q, B, X', hpost, hsteps⟩
  · exact Or.inl ⟨v, vm₁, B, X₁.warmed, X', hpost, fun target h => hstep₁ _ fun acts => by rw [doInvoke_state]; exact hsteps.trans h⟩
  · exact Or.inr ⟨q, vm₁, B, X₁.warmed, X', hpost, hstep₁ _ fun acts => by rw [doInvoke_state]; exact hsteps⟩
theorem vx_callSX (X : Stand p l e R s m args below meth c T locs cells slots) (hexec : p.tables.exec = Jvm.exec) {own : String} {index : Nat} {y : MethodName} {bytes : ByteArray} {maxL : Nat} {ret : Option FieldType} {hh : List (Nat × Nat × Nat × Nat)}
    (hown : s.vm.findClass own = some m.cls) (hlink : (Cond.methodLink own index y).before args s = true) (hstat : (Cond.static y).before args s = true) (hinit : (Cond.initialized y.cls).before args s = true)
    (hcode : (Cond.codeWith y bytes maxL ret hh).before args s = true) (hy : y.cls ≠ "java/lang/invoke/MethodHandle" ∧ y.cls ≠ "java/lang/invoke/VarHandle")
    {W9 : Nat} {Pre : Pt → Array Value → Prop} {Post : Pt → Array Value → Option Value → Pt → Prop} {PostX : Pt → Array Value → Addr → Pt → Prop} (hK : vx_Back l R p e below s args y 3 W9 Pre Post PostX)
    {g : JFrame} (hg : g.method = m) (hsize : g.locals.size = c.maxLocals) {argsL rest : List Value} (hlen : ∀ sig, parseMethodDescriptor y.desc = some sig → argsL.length = sig.parameters.length)
    (hstack : g.stack = argsL.reverse ++ rest) (hW : 2 * g.monitorRoom + (rest.map fun v => v.category).sum ≤ W9) (hdg : decode c.code g.pc = .ok (.invokestatic index, 3))
    (hpre : ∀ vm₁, s.WarmedH vm₁ → Pre ⟨T.setVm vm₁, locs, cells, slots⟩ argsL.toArray) :
    (∃ (v : Option Value) (vm₁ : Vm) (B : Pt), s.WarmedH vm₁ ∧ Stand p l e R s m args below meth c B.U B.locs B.cells B.slots ∧ Post ⟨T.setVm vm₁, locs, cells, slots⟩ argsL.toArray v B ∧
      ∀ target, Steps p.tables e below (B.U.setTop { g with pc := g.pc + 3, stack := v.toList ++ rest }) target → Steps p.tables e below (T.setTop g) target) ∨
    (∃ (q : Addr) (vm₁ : Vm) (B : Pt), s.WarmedH vm₁ ∧ Stand p l e R s m args below meth c B.U B.locs B.cells B.slots ∧ PostX ⟨T.setVm vm₁, locs, cells, slots⟩ argsL.toArray q B ∧
      Steps p.tables e below (T.setTop g) ((B.U.setTop { g with stack := rest }).pushFrame (.throwing q))) := by
  obtain ⟨mk, methM, cM, hnamed, hmethM, -, -, -, -, -, -, hsigM⟩ := Cond.codeWith_spec hcode
  have hstatic : methM.isStatic = true := Cond.static_spec hnamed hmethM hstat
  obtain ⟨kP, hkP, -⟩ := className_of_methodNamed hnamed
  have hinitP : kP.init = .initialized := Cond.initialized_spec (findClass_of_methodNamed hnamed) hkP hinit
  obtain ⟨vm₁, X₁, hstep₁⟩ := X.invokestatic hexec hown hlink hnamed hmethM hstatic hkP hinitP hy (g := g) hg (argsL := argsL) (rest := rest) (hlen _ hsigM) hstack hdg
  rcases hK m meth c ⟨T.setVm vm₁, locs, cells, slots⟩ { g with stack := rest } (.invokestatic index) mk argsL.toArray X₁ hg hsize hdg hW (X₁.named hnamed) (hpre vm₁ X₁.warmed) with ⟨v, B, X', hpost, hsteps⟩ | ⟨q, B, X', hpost, hsteps⟩
  · exact Or.inl ⟨v, vm₁, B, X₁.warmed, X', hpost, fun target h => hstep₁ _ fun acts => by rw [doInvoke_state]; exact hsteps.trans h⟩
  · exact Or.inr ⟨q, vm₁, B, X₁.warmed, X', hpost, hstep₁ _ fun acts => by rw [doInvoke_state]; exact hsteps⟩
theorem vx_callVW (X : Stand p l e R s m args below meth c T locs cells slots) (hexec : p.tables.exec = Jvm.exec) {own C : String} {index : Nat} {y : MethodName} {bytes : ByteArray} {maxL : Nat} {ret : Option FieldType} {hh : List (Nat × Nat × Nat × Nat)}
    (hown : s.vm.findClass own = some m.cls) (hlink : (Cond.methodLink own index y).before args s = true) (hinst : (Cond.instanceMethod y).before args s = true) (hsel : (Cond.selects C y y).before args s = true)
    (hcode : (Cond.codeWith y bytes maxL ret hh).before args s = true) (hy : y.cls ≠ "java/lang/invoke/MethodHandle" ∧ y.cls ≠ "java/lang/invoke/VarHandle")
    {W9 : Nat} {Pre : Pt → Array Value → Prop} {Post : Pt → Array Value → Option Value → Pt → Prop} (hK : Back l R p e below s args y 3 W9 Pre Post)
    {b : Addr} {cellB : Cell} (hcell : T.heap[b]? = some cellB) (hobj : cellB.vm.isStatics = false) (hcls : s.vm.findClass C = some cellB.cls)
    {g : JFrame} (hg : g.method = m) (hsize : g.locals.size = c.maxLocals) {argsL rest : List Value} (hlen : ∀ sig, parseMethodDescriptor y.desc = some sig → argsL.length = sig.parameters.length)
    (hstack : g.stack = argsL.reverse ++ .ref b :: rest) (hW : 2 * g.monitorRoom + (rest.map fun v => v.category).sum ≤ W9) (hdg : decode c.code g.pc = .ok (.invokevirtual index, 3))
    (hpre : ∀ vm₁, s.WarmedH vm₁ → Pre ⟨T.setVm vm₁, locs, cells, slots⟩ (Value.ref b :: argsL).toArray) :
    ∃ (v : Option Value) (vm₁ : Vm) (B : Pt), s.WarmedH vm₁ ∧ Stand p l e R s m args below meth c B.U B.locs B.cells B.slots ∧ Post ⟨T.setVm vm₁, locs, cells, slots⟩ (Value.ref b :: argsL).toArray v B ∧
      ∀ target, Steps p.tables e below (B.U.setTop { g with pc := g.pc + 3, stack := v.toList ++ rest }) target → Steps p.tables e below (T.setTop g) target := by
  obtain ⟨mk, methM, hnamed, hmethM, hstM, habM⟩ := Cond.instanceMethod_spec hinst
  obtain ⟨m8, methM', cM, hn8, hmethM', -, -, -, -, -, -, hsigM⟩ := Cond.codeWith_spec hcode
  cases Option.some.inj (hn8.symm.trans hnamed)
  cases hmethM.symm.trans hmethM'
  obtain ⟨c2, r2, m2, q1, q2, q3, q4, kP, hkP, hkPi⟩ := Cond.selects_spec hsel
  cases hcls.symm.trans q1
  cases (State.methodFound?_of_named hnamed hy).symm.trans q2
  cases hnamed.symm.trans q3
  have hselP : selectMethod e.platform s.vm cellB.cls mk = .method mk := by rw [Launch.admits_selectMethod X.admits]; exact q4
  obtain ⟨vm₁, X₁, hstep₁⟩ := X.invokevirtual hexec hown hlink hnamed hmethM hstM hkP hkPi hy (a := b) (cell := cellB) hcell
    (fun z h => by rw [h] at hobj; cases hobj) hselP hmethM habM hkP hkPi (g := g) hg (argsL := argsL) (rest := rest) (hlen _ hsigM) hstack hdg
  obtain ⟨v, B, X', hpost, hsteps⟩ := hK m meth c ⟨T.setVm vm₁, locs, cells, slots⟩ { g with stack := rest } (.invokevirtual index) mk (Value.ref b :: argsL).toArray X₁ hg hsize hdg hW (X₁.named hnamed) (hpre vm₁ X₁.warmed)
  exact ⟨v, vm₁, B, X₁.warmed, X', hpost, fun target h => hstep₁ _ fun acts => by rw [doInvoke_state]; exact hsteps.trans h⟩
abbrev vx_CVW (R : Room) (s : State) (args : Array Value) (own C : String) (index : Nat) (y : MethodName) (bytes : ByteArray) (maxL : Nat) (ret : Option FieldType) (hh : List (Nat × Nat × Nat × Nat)) (ws : List Cond) (rm : Room) (mc ms n : Nat) : Prop :=
  (rm.cells = mc ∧ rm.slots = ms ∧ rm.frames + 1 ≤ R.frames ∧ 8 + (maxL + 11) + rm.locals ≤ R.locals ∧ (∀ w ∈ ws, ∀ (a' : Array Value) (U : State), s.WarmedH U.vm → w.before a' U = true) ∧ Cond.codeWith y bytes maxL ret hh ∈ ws) ∧
  (Cond.codeWith y bytes maxL ret hh).before args s = true ∧ (Cond.initialized y.cls).before args s = true ∧ (y.cls ≠ "java/lang/invoke/MethodHandle" ∧ y.cls ≠ "java/lang/invoke/VarHandle") ∧
  (∀ sig, parseMethodDescriptor y.desc = some sig → n = sig.parameters.length) ∧ (Cond.methodLink own index y).before args s = true ∧ (Cond.instanceMethod y).before args s = true ∧ (Cond.selects C y y).before args s = true
theorem vx_cwVW {own C : String} {index maxL mc ms : Nat} {y : MethodName} {bytes : ByteArray} {ret : Option FieldType} {hh : List (Nat × Nat × Nat × Nat)} {Ts ws ws' : List Cond} {rm : Room} (n : Nat) (ht : ∀ w ∈ Ts, w.before args s = true) (hT : GoodIn Ts (wsV own index C y ws)) (hw : ws = Cond.codeWith y bytes maxL ret hh :: ws') (hrc : rm.cells = mc) (hrs : rm.slots = ms)
    (hd : y.cls = C ∧ y.cls ≠ "java/lang/invoke/MethodHandle" ∧ y.cls ≠ "java/lang/invoke/VarHandle" ∧ (parseMethodDescriptor y.desc).map (fun d => d.parameters.length) = some n) (hR : rm.frames + 1 ≤ R.frames ∧ 8 + (maxL + 11) + rm.locals ≤ R.locals) :
    vx_CVW R s args own C index y bytes maxL ret hh ws rm mc ms n := by
  obtain ⟨hC, hd⟩ := hd
  subst hC
  have ok : ∀ w ∈ wsV own index y.cls y ws, w.before args s = true := fun w h => ht w (hT w h).1
  have hG : GoodIn Ts ws := fun w h => hT w (by unfold wsV; exact List.mem_append_right _ h)
  have hc : Cond.codeWith y bytes maxL ret hh ∈ ws := by rw [hw]; exact List.mem_cons_self
  refine ⟨⟨hrc, hrs, hR.1, hR.2, pay_in ht hG, hc⟩, ht _ (hG _ hc).1, ok _ (by simp [wsV]), ⟨hd.1, hd.2.1⟩, fun sig h => ?_, ok _ (by simp [wsV]), ok _ (by simp [wsV]), ok _ (by simp [wsV])⟩
  have h2 := hd.2.2
  rw [h] at h2
  exact (Option.some.inj h2).symm
theorem vx_runVW {y : MethodName} {bytes cc : ByteArray} {maxL nL mc ms n index : Nat} {ret : Option FieldType} {hh : List (Nat × Nat × Nat × Nat)} {ws : List Cond} {rm : Room} {Pc : Array Value → State → Prop} {Qc : Array Value → State → Outcome → State → Prop} {free : Addr → Prop} {Ts : List Cond} {own C : String} {b : Addr} {As rest : List Value} {g : JFrame}
    (S : CallFix p m c cc nL s args Ts own) (hM : Met l y ws rm Pc Qc mc ms free) (cw : vx_CVW R s args own C index y bytes maxL ret hh ws rm mc ms n) (hp : PreV s H C b Pc As)
    (hg : g.method = m) (hn : As.length = n) (hsize : g.locals.size = nL) (hstack : g.stack = As.reverse ++ .ref b :: rest) (hW : 2 * g.monitorRoom + (rest.map fun v => v.category).sum ≤ 8) (hdg : decode cc g.pc = .ok (.invokevirtual index, 3)) (hf : cells + mc ≤ R.cells ∧ slots + ms ≤ R.slots) :
    va_Run p l e R s m args below meth c H locs cells slots mc ms g rest (Qc (Value.ref b :: As).toArray) free := by
  obtain ⟨⟨hrc, hrs, hfr, hlo, hws, hcw⟩, hcode, hini, hy, hlen, hl, hin, hse⟩ := cw
  have hK : Back l R p e below s args y 3 8 (PreOf R mc ms Pc) (PostOf Qc mc ms free) := va_backW (hh := hh) (bytes := bytes) (maxL := maxL) (ret := ret) hM hp.1 hrc hrs hfr hlo hws hcw (fun a' U hW => word_at hW (Or.inl (by first | rfl | simp [Cond.onTables, Cond.keeps, Cond.steady])) hini)
  obtain ⟨hx, hb, hml, ho, -⟩ := S
  obtain ⟨-, ⟨cellB, hcB, hoB, hclB⟩, hPc⟩ := hp
  intro T hT X
  obtain ⟨v, vm₁, ⟨U', l2, c2, s2⟩, hW₁, X', ⟨g', mk, t, L, e1, e2, hq, h1, hL, h2, h3⟩, st⟩ := vx_callVW X hx (C := C) (hh := hh) (bytes := bytes) (maxL := maxL) (ret := ret) ho hl hin hse hcode hy hK (by rw [hT]; exact hcB) hoB hclB hg (hsize.trans hml.symm) (argsL := As) (rest := rest) (fun sig h => hn.trans (hlen sig h)) hstack hW (by rw [hb]; exact hdg)
    (fun vm₁ hW₁ => ⟨hf.1, hf.2, hPc (T.setVm vm₁) hT hW₁⟩)
  dsimp only [Pt.U, Pt.locs, Pt.cells, Pt.slots] at X' e1 e2 h1 h2 h3 st
  subst h1; subst h2; subst h3
  exact ⟨v, (T.setVm vm₁).calling g' mk (Value.ref b :: As).toArray, t, U', L, hT, X', hL, e1, e2, hq, st⟩
section
variable {y : MethodName} {bytes cc : ByteArray} {maxL nL mc ms n index : Nat} {ret : Option FieldType} {ws : List Cond} {rm : Room} {Pc : Array Value → State → Prop} {Qc : Array Value → State → Outcome → State → Prop} {XC : String → State → State → Prop} {free : Addr → Prop} {Ts : List Cond} {own C : String} {b : Addr} {As rest : List Value} {g : JFrame}
theorem vx_runVX {hh : List (Nat × Nat × Nat × Nat)} (S : CallFix p m c cc nL s args Ts own) (hM : vx_Met l y ws rm Pc Qc XC mc ms free) (cw : vx_CVW R s args own C index y bytes maxL ret hh ws rm mc ms n) (hp : PreV s H C b Pc As)
    (hg : g.method = m) (hn : As.length = n) (hsize : g.locals.size = nL) (hstack : g.stack = As.reverse ++ .ref b :: rest) (hW : 2 * g.monitorRoom + (rest.map fun v => v.category).sum ≤ 8) (hdg : decode cc g.pc = .ok (.invokevirtual index, 3)) (hf : cells + mc ≤ R.cells ∧ slots + ms ≤ R.slots) :
    vx_Run p l e R s m args below meth c H locs cells slots mc ms g rest (Qc (Value.ref b :: As).toArray) XC free := by
  obtain ⟨⟨hrc, hrs, hfr, hlo, hws, hcw⟩, hcode, hini, hy, hlen, hl, hin, hse⟩ := cw
  have hK : vx_Back l R p e below s args y 3 8 (PreOf R mc ms Pc) (PostOf Qc mc ms free) (vx_Post XC mc ms free) := vx_backW (hh := hh) (bytes := bytes) (maxL := maxL) (ret := ret) hM hp.1 hrc hrs hfr hlo hws hcw (fun a' U hW => word_at hW (Or.inl (by first | rfl | simp [Cond.onTables, Cond.keeps, Cond.steady])) hini)
  obtain ⟨hx, hb, hml, ho, -⟩ := S
  obtain ⟨-, ⟨cellB, hcB, hoB, hclB⟩, hPc⟩ := hp
  intro T hT X
  rcases vx_callVX X hx (C := C) (hh := hh) (bytes := bytes) (maxL := maxL) (ret := ret) ho hl hin hse hcode hy hK (by rw [hT]; exact hcB) hoB hclB hg (hsize.trans hml.symm) (argsL := As) (rest := rest) (fun sig h => hn.trans (hlen sig h)) hstack hW (by rw [hb]; exact hdg)
    (fun vm₁ hW₁ => ⟨hf.1, hf.2, hPc (T.setVm vm₁) hT hW₁⟩) with ⟨v, vm₁, ⟨U', l2, c2, s2⟩, hW₁, X', ⟨g', mk, t, L, e1, e2, hq, h1, hL, h2, h3⟩, st⟩ | ⟨q, vm₁, ⟨U', l2, c2, s2⟩, hW₁, X', ⟨g', mk, t, L, E, ce, e1, e2, hq, hce, hcv, hcl, h1, hL, h2, h3⟩, st⟩
  · dsimp only [Pt.U, Pt.locs, Pt.cells, Pt.slots] at X' e1 e2 h1 h2 h3 st
    subst h1; subst h2; subst h3
    exact Or.inl ⟨v, (T.setVm vm₁).calling g' mk (Value.ref b :: As).toArray, t, U', L, hT, X', hL, e1, e2, hq, st⟩
  · dsimp only [Pt.U, Pt.locs, Pt.cells, Pt.slots] at X' e1 e2 h1 h2 h3 st hcl
    subst h1; subst h2; subst h3
    exact Or.inr ⟨q, (T.setVm vm₁).calling g' mk (Value.ref b :: As).toArray, t, U', L, E, ce, hT, X', hL, e1, e2, hq, hce, hcv, vx_cls hW₁ hcl, st⟩
theorem vx_runSX {hh : List (Nat × Nat × Nat × Nat)} (S : CallFix p m c cc nL s args Ts own) (hM : vx_Met l y ws rm Pc Qc XC mc ms free) (cw : vx_CSW R s args own index y bytes maxL ret hh ws rm mc ms n) (hp : PreS s H Pc As)
    (hg : g.method = m) (hn : As.length = n) (hsize : g.locals.size = nL) (hstack : g.stack = As.reverse ++ rest) (hW : 2 * g.monitorRoom + (rest.map fun v => v.category).sum ≤ 8) (hdg : decode cc g.pc = .ok (.invokestatic index, 3)) (hf : cells + mc ≤ R.cells ∧ slots + ms ≤ R.slots) :
    vx_Run p l e R s m args below meth c H locs cells slots mc ms g rest (Qc As.toArray) XC free := by
  obtain ⟨⟨hrc, hrs, hfr, hlo, hws, hcw⟩, hcode, hini, hy, hlen, hl, hstt⟩ := cw
  have hK : vx_Back l R p e below s args y 3 8 (PreOf R mc ms Pc) (PostOf Qc mc ms free) (vx_Post XC mc ms free) := vx_backW (hh := hh) (bytes := bytes) (maxL := maxL) (ret := ret) hM hp.1 hrc hrs hfr hlo hws hcw (fun a' U hW => word_at hW (Or.inl (by first | rfl | simp [Cond.onTables, Cond.keeps, Cond.steady])) hini)
  obtain ⟨hx, hb, hml, ho, -⟩ := S
  intro T hT X
  rcases vx_callSX X hx (hh := hh) (bytes := bytes) (maxL := maxL) (ret := ret) ho hl hstt hini hcode hy hK hg (hsize.trans hml.symm) (argsL := As) (rest := rest) (fun sig h => hn.trans (hlen sig h)) hstack hW (by rw [hb]; exact hdg)
    (fun vm₁ hW₁ => ⟨hf.1, hf.2, hp.2 (T.setVm vm₁) hT hW₁⟩) with ⟨v, vm₁, ⟨U', l2, c2, s2⟩, hW₁, X', ⟨g', mk, t, L, e1, e2, hq, h1, hL, h2, h3⟩, st⟩ | ⟨q, vm₁, ⟨U', l2, c2, s2⟩, hW₁, X', ⟨g', mk, t, L, E, ce, e1, e2, hq, hce, hcv, hcl, h1, hL, h2, h3⟩, st⟩
  · dsimp only [Pt.U, Pt.locs, Pt.cells, Pt.slots] at X' e1 e2 h1 h2 h3 st
    subst h1; subst h2; subst h3
    exact Or.inl ⟨v, (T.setVm vm₁).calling g' mk As.toArray, t, U', L, hT, X', hL, e1, e2, hq, st⟩
  · dsimp only [Pt.U, Pt.locs, Pt.cells, Pt.slots] at X' e1 e2 h1 h2 h3 st hcl
    subst h1; subst h2; subst h3
    exact Or.inr ⟨q, (T.setVm vm₁).calling g' mk As.toArray, t, U', L, E, ce, hT, X', hL, e1, e2, hq, hce, hcv, vx_cls hW₁ hcl, st⟩
end
end VXH
theorem vx_ofWH {l : Launch} {y : MethodName} {ws ws' : List Cond} {rm : Room} {Pc : Array Value → State → Prop} {Qc : Array Value → State → Outcome → State → Prop} {XC : String → State → State → Prop} {mc ms : Nat} {free : Addr → Prop} {cc : ByteArray} {maxL : Nat} {ret : Option FieldType} {hh : List (Nat × Nat × Nat × Nat)}
    (hy : plainName y.cls = true) (hw : ws = Cond.codeWith y cc maxL ret hh :: ws')
    (body : ∀ p e s m args below meth c s₁, BodyLoose p l y (headSpec ws rm) cc maxL ret e s m args below meth c s₁ → c.maxLocals = maxL → Pc args s →
      W p l e (headSpec ws rm).room s m args below meth c s.heap [] 0 0 (vx_MQ below Qc XC args s mc ms free) (entryFrame m args maxL)) : vx_Met l y ws rm Pc Qc XC mc ms free := by
  refine MetFree.of_bodyS (code := cc) (maxLocals := maxL) (ret := ret) hy ?_ ?_
  · intro args s m h hn
    obtain ⟨m9, meth, c, hn9, h1, h2, h3, h4, -, h5, h6, -⟩ := Cond.codeWith_spec (atoms_spec (ws := ws) h _ (by rw [hw]; exact List.mem_cons_self))
    cases hn.symm.trans hn9
    exact ⟨meth, c, h1, h2, h3, h4, h5, h6⟩
  · intro p e s m args below meth c s₁ B hml hP _
    have hh0 : s₁.heap = s.heap := by rw [B.state]; rfl
    obtain ⟨t, a1, o, b1, b2, b3⟩ := body p e s m args below meth c s₁ B hml hP s₁ hh0 (Stand.of_body B)
    exact ⟨t, o, a1, b1, b2, b3⟩
/-! ===== END ===== -/
end
section
/-! ===== BEGIN printed: names, fields, word lists, decode rows ===== -/
def RX0 : String := "AmplifierDesk$Bench"
def TX0 : u_T := fun k => match k with
  | 0 => ("AmplifierDesk$Bench", "state", "LAmplifierDesk$State;", true)
  | 1 => ("AmplifierDesk$Bench", "amplifierParts", "[I", true)
  | 2 => ("AmplifierDesk$Bench", "amplifiers", "I", false)
  | 3 => ("AmplifierDesk$Bench", "replies", "LAmplifierDesk$Replies;", true)
  | 4 => ("AmplifierDesk$Bench", "given", "[J", true)
  | 5 => ("AmplifierDesk$Bench", "saturated", "I", false)
  | 6 => ("AmplifierDesk$Bench", "reason", "I", false)
  | _ => ("AmplifierDesk$Bench", "culprit", "I", false)
def tyX0 : Nat → FieldType := fun k => match k with
  | 0 => .object "AmplifierDesk$State"
  | 1 => .array .int
  | 2 => .int
  | 3 => .object "AmplifierDesk$Replies"
  | 4 => .array .long
  | 5 => .int
  | 6 => .int
  | _ => .int
abbrev wsX00 : List Cond := u_ws RX0 TX0 8
theorem nmX0 : ∀ a, a < 8 → ∀ b, b < 8 → a ≠ b → (TX0 a).2.1 ≠ (TX0 b).2.1 := by decide +kernel
theorem tyX0_ok : ∀ k, k < 8 → parseFieldDescriptor (TX0 k).2.2.1 = some (tyX0 k) := by decide +kernel
abbrev cX0_init : ByteArray := prog_2_method_1_code
def yX0_init : MethodName := ⟨RX0, "<init>", "()V"⟩
abbrev cX0_takeOver : ByteArray := prog_2_method_2_code
def yX0_takeOver : MethodName := ⟨RX0, "takeOver", "(LAmplifierDesk$State;)V"⟩
abbrev cX0_solve : ByteArray := prog_2_method_3_code
def yX0_solve : MethodName := ⟨RX0, "solve", "()V"⟩
abbrev cX0_cases : ByteArray := prog_2_method_4_code
def yX0_cases : MethodName := ⟨RX0, "cases", "()I"⟩
abbrev cX0_settle : ByteArray := prog_2_method_5_code
def yX0_settle : MethodName := ⟨RX0, "settle", "()V"⟩
abbrev cX0_changesTo : ByteArray := prog_2_method_6_code
def yX0_changesTo : MethodName := ⟨RX0, "changesTo", "(I)I"⟩
abbrev cX0_isDetermined : ByteArray := prog_2_method_7_code
def yX0_isDetermined : MethodName := ⟨RX0, "isDetermined", "(I)Z"⟩
abbrev cX0_saturatedIn : ByteArray := prog_2_method_8_code
def yX0_saturatedIn : MethodName := ⟨RX0, "saturatedIn", "(I)I"⟩
abbrev cX0_choose : ByteArray := prog_2_method_9_code
def yX0_choose : MethodName := ⟨RX0, "choose", "(I)V"⟩
abbrev cX0_denominator : ByteArray := prog_2_method_10_code
def yX0_denominator : MethodName := ⟨RX0, "denominator", "()J"⟩
abbrev cX0_numerator : ByteArray := prog_2_method_11_code
def yX0_numerator : MethodName := ⟨RX0, "numerator", "(I)J"⟩
abbrev cX0_nodeVoltage : ByteArray := prog_2_method_12_code
def yX0_nodeVoltage : MethodName := ⟨RX0, "nodeVoltage", "(III)J"⟩
abbrev cX0_inputSign : ByteArray := prog_2_method_13_code
def yX0_inputSign : MethodName := ⟨RX0, "inputSign", "(I)I"⟩
abbrev cX0_signOfInput : ByteArray := prog_2_method_14_code
def yX0_signOfInput : MethodName := ⟨RX0, "signOfInput", "(I)I"⟩
abbrev cX0_holds : ByteArray := prog_2_method_15_code
def yX0_holds : MethodName := ⟨RX0, "holds", "(I)Z"⟩
abbrev cX0_judge : ByteArray := prog_2_method_16_code
def yX0_judge : MethodName := ⟨RX0, "judge", "(I)V"⟩
abbrev cX0_faultOf : ByteArray := prog_2_method_17_code
def yX0_faultOf : MethodName := ⟨RX0, "faultOf", "(II)I"⟩
abbrev cX0_hasNegativeFeedback : ByteArray := prog_2_method_18_code
def yX0_hasNegativeFeedback : MethodName := ⟨RX0, "hasNegativeFeedback", "(I)Z"⟩
def RX1 : String := "AmplifierDesk$History"
def TX1 : u_T := fun k => match k with
  | 0 => ("AmplifierDesk$History", "states", "[LAmplifierDesk$State;", true)
  | 1 => ("AmplifierDesk$History", "oldest", "I", false)
  | _ => ("AmplifierDesk$History", "size", "I", false)
def tyX1 : Nat → FieldType := fun k => match k with
  | 0 => .array (.object "AmplifierDesk$State")
  | 1 => .int
  | _ => .int
abbrev wsX10 : List Cond := u_ws RX1 TX1 3
theorem nmX1 : ∀ a, a < 3 → ∀ b, b < 3 → a ≠ b → (TX1 a).2.1 ≠ (TX1 b).2.1 := by decide +kernel
theorem tyX1_ok : ∀ k, k < 3 → parseFieldDescriptor (TX1 k).2.2.1 = some (tyX1 k) := by decide +kernel
abbrev cX1_init : ByteArray := prog_3_method_1_code
def yX1_init : MethodName := ⟨RX1, "<init>", "()V"⟩
abbrev cX1_record : ByteArray := prog_3_method_2_code
def yX1_record : MethodName := ⟨RX1, "record", "(LAmplifierDesk$State;)V"⟩
abbrev cX1_removeLatest : ByteArray := prog_3_method_3_code
def yX1_removeLatest : MethodName := ⟨RX1, "removeLatest", "()LAmplifierDesk$State;"⟩
def RX2 : String := "AmplifierDesk$Parts"
def TX2 : u_T := fun k => match k with
  | 0 => ("AmplifierDesk$Parts", "kind", "[I", true)
  | 1 => ("AmplifierDesk$Parts", "first", "[I", true)
  | 2 => ("AmplifierDesk$Parts", "second", "[I", true)
  | 3 => ("AmplifierDesk$Parts", "third", "[I", true)
  | _ => ("AmplifierDesk$Parts", "size", "I", false)
def tyX2 : Nat → FieldType := fun k => match k with
  | 0 => .array .int
  | 1 => .array .int
  | 2 => .array .int
  | 3 => .array .int
  | _ => .int
abbrev wsX20 : List Cond := u_ws RX2 TX2 5
theorem nmX2 : ∀ a, a < 5 → ∀ b, b < 5 → a ≠ b → (TX2 a).2.1 ≠ (TX2 b).2.1 := by decide +kernel
theorem tyX2_ok : ∀ k, k < 5 → parseFieldDescriptor (TX2 k).2.2.1 = some (tyX2 k) := by decide +kernel
abbrev cX2_init : ByteArray := prog_4_method_1_code
def yX2_init : MethodName := ⟨RX2, "<init>", "(I)V"⟩
abbrev cX2_copyFrom : ByteArray := prog_4_method_2_code
def yX2_copyFrom : MethodName := ⟨RX2, "copyFrom", "(LAmplifierDesk$Parts;)V"⟩
abbrev cX2_addAll : ByteArray := prog_4_method_3_code
def yX2_addAll : MethodName := ⟨RX2, "addAll", "(LAmplifierDesk$Parts;)V"⟩
abbrev cX2_add : ByteArray := prog_4_method_4_code
def yX2_add : MethodName := ⟨RX2, "add", "(IIII)V"⟩
abbrev cX2_removeAt : ByteArray := prog_4_method_5_code
def yX2_removeAt : MethodName := ⟨RX2, "removeAt", "(I)V"⟩
abbrev cX2_amplifiersBefore : ByteArray := prog_4_method_6_code
def yX2_amplifiersBefore : MethodName := ⟨RX2, "amplifiersBefore", "(I)I"⟩
abbrev cX2_usedNodes : ByteArray := prog_4_method_7_code
def yX2_usedNodes : MethodName := ⟨RX2, "usedNodes", "()I"⟩
abbrev cX2_drivenNode : ByteArray := prog_4_method_8_code
def yX2_drivenNode : MethodName := ⟨RX2, "drivenNode", "(I)I"⟩
abbrev cX2_drivenNodes : ByteArray := prog_4_method_9_code
def yX2_drivenNodes : MethodName := ⟨RX2, "drivenNodes", "()I"⟩
abbrev cX2_haveNodesAsTold : ByteArray := prog_4_method_10_code
def yX2_haveNodesAsTold : MethodName := ⟨RX2, "haveNodesAsTold", "()Z"⟩
abbrev cX2_hasNodesAsTold : ByteArray := prog_4_method_11_code
def yX2_hasNodesAsTold : MethodName := ⟨RX2, "hasNodesAsTold", "(I)Z"⟩
abbrev cX2_haveRoomFor : ByteArray := prog_4_method_12_code
def yX2_haveRoomFor : MethodName := ⟨RX2, "haveRoomFor", "(LAmplifierDesk$Parts;)Z"⟩
def RX3 : String := "AmplifierDesk$Replies"
def TX3 : u_T := fun k => match k with
  | 0 => ("AmplifierDesk$Replies", "denominator", "[J", true)
  | 1 => ("AmplifierDesk$Replies", "numerator", "[[J", true)
  | _ => ("AmplifierDesk$Replies", "rows", "[[J", true)
def tyX3 : Nat → FieldType := fun k => match k with
  | 0 => .array .long
  | 1 => .array (.array .long)
  | _ => .array (.array .long)
abbrev wsX30 : List Cond := u_ws RX3 TX3 3
theorem nmX3 : ∀ a, a < 3 → ∀ b, b < 3 → a ≠ b → (TX3 a).2.1 ≠ (TX3 b).2.1 := by decide +kernel
theorem tyX3_ok : ∀ k, k < 3 → parseFieldDescriptor (TX3 k).2.2.1 = some (tyX3 k) := by decide +kernel
abbrev cX3_init : ByteArray := prog_5_method_1_code
def yX3_init : MethodName := ⟨RX3, "<init>", "()V"⟩
abbrev cX3_solve : ByteArray := prog_5_method_2_code
def yX3_solve : MethodName := ⟨RX3, "solve", "(LAmplifierDesk$Parts;I)V"⟩
abbrev cX3_writeRows : ByteArray := prog_5_method_3_code
def yX3_writeRows : MethodName := ⟨RX3, "writeRows", "(LAmplifierDesk$Parts;I)V"⟩
abbrev cX3_giveVoltage : ByteArray := prog_5_method_4_code
def yX3_giveVoltage : MethodName := ⟨RX3, "giveVoltage", "(I)V"⟩
abbrev cX3_join : ByteArray := prog_5_method_5_code
def yX3_join : MethodName := ⟨RX3, "join", "(IIII)V"⟩
abbrev cX3_equateInputs : ByteArray := prog_5_method_6_code
def yX3_equateInputs : MethodName := ⟨RX3, "equateInputs", "(III)V"⟩
abbrev cX3_eliminate : ByteArray := prog_5_method_7_code
def yX3_eliminate : MethodName := ⟨RX3, "eliminate", "()J"⟩
abbrev cX3_bringPivot : ByteArray := prog_5_method_8_code
def yX3_bringPivot : MethodName := ⟨RX3, "bringPivot", "(I)Z"⟩
abbrev cX3_clearColumn : ByteArray := prog_5_method_9_code
def yX3_clearColumn : MethodName := ⟨RX3, "clearColumn", "(IJ)V"⟩
abbrev cX3_copyAnswers : ByteArray := prog_5_method_10_code
def yX3_copyAnswers : MethodName := ⟨RX3, "copyAnswers", "([JI)V"⟩
def RX4 : String := "AmplifierDesk$State"
def TX4 : u_T := fun k => match k with
  | 0 => ("AmplifierDesk$State", "parts", "LAmplifierDesk$Parts;", true)
  | 1 => ("AmplifierDesk$State", "rail", "I", false)
  | 2 => ("AmplifierDesk$State", "present", "I", false)
  | _ => ("AmplifierDesk$State", "settled", "Z", false)
def tyX4 : Nat → FieldType := fun k => match k with
  | 0 => .object "AmplifierDesk$Parts"
  | 1 => .int
  | 2 => .int
  | _ => .boolean
abbrev wsX40 : List Cond := u_ws RX4 TX4 4
theorem nmX4 : ∀ a, a < 4 → ∀ b, b < 4 → a ≠ b → (TX4 a).2.1 ≠ (TX4 b).2.1 := by decide +kernel
theorem tyX4_ok : ∀ k, k < 4 → parseFieldDescriptor (TX4 k).2.2.1 = some (tyX4 k) := by decide +kernel
abbrev cX4_init : ByteArray := prog_6_method_1_code
def yX4_init : MethodName := ⟨RX4, "<init>", "()V"⟩
abbrev cX4_copyFrom : ByteArray := prog_6_method_2_code
def yX4_copyFrom : MethodName := ⟨RX4, "copyFrom", "(LAmplifierDesk$State;)V"⟩
abbrev cX4_empty : ByteArray := prog_6_method_3_code
def yX4_empty : MethodName := ⟨RX4, "empty", "()V"⟩
abbrev cX4_remove : ByteArray := prog_6_method_4_code
def yX4_remove : MethodName := ⟨RX4, "remove", "(I)V"⟩
def RX5 : String := "AmplifierDesk$TextReader"
def TX5 : u_T := fun k => match k with
  | 0 => ("AmplifierDesk$TextReader", "text", "[C", true)
  | 1 => ("AmplifierDesk$TextReader", "parts", "LAmplifierDesk$Parts;", true)
  | 2 => ("AmplifierDesk$TextReader", "length", "I", false)
  | 3 => ("AmplifierDesk$TextReader", "kind", "I", false)
  | 4 => ("AmplifierDesk$TextReader", "digits", "[I", true)
  | 5 => ("AmplifierDesk$TextReader", "taken", "I", false)
  | 6 => ("AmplifierDesk$TextReader", "sourceNode", "I", false)
  | 7 => ("AmplifierDesk$TextReader", "negative", "Z", false)
  | _ => ("AmplifierDesk$TextReader", "value", "I", false)
def tyX5 : Nat → FieldType := fun k => match k with
  | 0 => .array .char
  | 1 => .object "AmplifierDesk$Parts"
  | 2 => .int
  | 3 => .int
  | 4 => .array .int
  | 5 => .int
  | 6 => .int
  | 7 => .boolean
  | _ => .int
abbrev wsX50 : List Cond := u_ws RX5 TX5 9
theorem nmX5 : ∀ a, a < 9 → ∀ b, b < 9 → a ≠ b → (TX5 a).2.1 ≠ (TX5 b).2.1 := by decide +kernel
theorem tyX5_ok : ∀ k, k < 9 → parseFieldDescriptor (TX5 k).2.2.1 = some (tyX5 k) := by decide +kernel
abbrev cX5_init : ByteArray := prog_7_method_1_code
def yX5_init : MethodName := ⟨RX5, "<init>", "()V"⟩
abbrev cX5_read : ByteArray := prog_7_method_2_code
def yX5_read : MethodName := ⟨RX5, "read", "()I"⟩
abbrev cX5_isComplete : ByteArray := prog_7_method_3_code
def yX5_isComplete : MethodName := ⟨RX5, "isComplete", "()Z"⟩
abbrev cX5_startPart : ByteArray := prog_7_method_4_code
def yX5_startPart : MethodName := ⟨RX5, "startPart", "(I)V"⟩
abbrev cX5_accepts : ByteArray := prog_7_method_5_code
def yX5_accepts : MethodName := ⟨RX5, "accepts", "(C)Z"⟩
abbrev cX5_acceptsLetter : ByteArray := prog_7_method_6_code
def yX5_acceptsLetter : MethodName := ⟨RX5, "acceptsLetter", "(C)Z"⟩
abbrev cX5_kindOfLetter : ByteArray := prog_7_method_7_code
def yX5_kindOfLetter : MethodName := ⟨RX5, "kindOfLetter", "(C)I"⟩
abbrev cX5_acceptsDigit : ByteArray := prog_7_method_8_code
def yX5_acceptsDigit : MethodName := ⟨RX5, "acceptsDigit", "(C)Z"⟩
abbrev cX5_acceptsInSource : ByteArray := prog_7_method_9_code
def yX5_acceptsInSource : MethodName := ⟨RX5, "acceptsInSource", "(C)Z"⟩
abbrev cX5_acceptsInValue : ByteArray := prog_7_method_10_code
def yX5_acceptsInValue : MethodName := ⟨RX5, "acceptsInValue", "(C)Z"⟩
abbrev cX5_isNode : ByteArray := prog_7_method_11_code
def yX5_isNode : MethodName := ⟨RX5, "isNode", "(C)Z"⟩
abbrev cX5_endsPart : ByteArray := prog_7_method_12_code
def yX5_endsPart : MethodName := ⟨RX5, "endsPart", "()Z"⟩
def RX6 : String := "AmplifierDesk"
def TX6 : u_T := fun k => match k with
  | 0 => ("AmplifierDesk", "now", "LAmplifierDesk$Bench;", true)
  | 1 => ("AmplifierDesk", "trial", "LAmplifierDesk$Bench;", true)
  | 2 => ("AmplifierDesk", "input", "LAmplifierDesk$TextReader;", true)
  | 3 => ("AmplifierDesk", "history", "LAmplifierDesk$History;", true)
  | 4 => ("AmplifierDesk", "images", "[LAmplifierDesk$State;", true)
  | _ => ("AmplifierDesk", "keptImages", "I", false)
def tyX6 : Nat → FieldType := fun k => match k with
  | 0 => .object "AmplifierDesk$Bench"
  | 1 => .object "AmplifierDesk$Bench"
  | 2 => .object "AmplifierDesk$TextReader"
  | 3 => .object "AmplifierDesk$History"
  | 4 => .array (.object "AmplifierDesk$State")
  | _ => .int
abbrev wsX60 : List Cond := u_ws RX6 TX6 6
theorem nmX6 : ∀ a, a < 6 → ∀ b, b < 6 → a ≠ b → (TX6 a).2.1 ≠ (TX6 b).2.1 := by decide +kernel
theorem tyX6_ok : ∀ k, k < 6 → parseFieldDescriptor (TX6 k).2.2.1 = some (tyX6 k) := by decide +kernel
abbrev cX6_init : ByteArray := prog_1_method_1_code
def yX6_init : MethodName := ⟨RX6, "<init>", "()V"⟩
abbrev cX6_begin : ByteArray := prog_1_method_2_code
def yX6_begin : MethodName := ⟨RX6, "begin", "()I"⟩
abbrev cX6_load : ByteArray := prog_1_method_3_code
def yX6_load : MethodName := ⟨RX6, "load", "()I"⟩
abbrev cX6_setValue : ByteArray := prog_1_method_4_code
def yX6_setValue : MethodName := ⟨RX6, "setValue", "(II)I"⟩
abbrev cX6_setRail : ByteArray := prog_1_method_5_code
def yX6_setRail : MethodName := ⟨RX6, "setRail", "(I)I"⟩
abbrev cX6_drop : ByteArray := prog_1_method_6_code
def yX6_drop : MethodName := ⟨RX6, "drop", "(I)I"⟩
abbrev cX6_sweep : ByteArray := prog_1_method_7_code
def yX6_sweep : MethodName := ⟨RX6, "sweep", "(II)I"⟩
abbrev cX6_undo : ByteArray := prog_1_method_8_code
def yX6_undo : MethodName := ⟨RX6, "undo", "()I"⟩
abbrev cX6_keep : ByteArray := prog_1_method_9_code
def yX6_keep : MethodName := ⟨RX6, "keep", "(I)I"⟩
abbrev cX6_back : ByteArray := prog_1_method_10_code
def yX6_back : MethodName := ⟨RX6, "back", "(I)I"⟩
abbrev cX6_append : ByteArray := prog_1_method_11_code
def yX6_append : MethodName := ⟨RX6, "append", "(I)I"⟩
abbrev cX6_clearInput : ByteArray := prog_1_method_12_code
def yX6_clearInput : MethodName := ⟨RX6, "clearInput", "()I"⟩
abbrev cX6_firstError : ByteArray := prog_1_method_13_code
def yX6_firstError : MethodName := ⟨RX6, "firstError", "()I"⟩
abbrev cX6_voltage : ByteArray := prog_1_method_14_code
def yX6_voltage : MethodName := ⟨RX6, "voltage", "(II)J"⟩
abbrev cX6_current : ByteArray := prog_1_method_15_code
def yX6_current : MethodName := ⟨RX6, "current", "(II)J"⟩
abbrev cX6_amplifier : ByteArray := prog_1_method_16_code
def yX6_amplifier : MethodName := ⟨RX6, "amplifier", "(II)I"⟩
abbrev cX6_why : ByteArray := prog_1_method_17_code
def yX6_why : MethodName := ⟨RX6, "why", "(I)I"⟩
abbrev cX6_concerned : ByteArray := prog_1_method_18_code
def yX6_concerned : MethodName := ⟨RX6, "concerned", "(I)I"⟩
abbrev cX6_inCase : ByteArray := prog_1_method_19_code
def yX6_inCase : MethodName := ⟨RX6, "inCase", "(III)J"⟩
abbrev cX6_trip : ByteArray := prog_1_method_20_code
def yX6_trip : MethodName := ⟨RX6, "trip", "(IZ)I"⟩
abbrev cX6_ifValue : ByteArray := prog_1_method_21_code
def yX6_ifValue : MethodName := ⟨RX6, "ifValue", "(II)I"⟩
abbrev cX6_part : ByteArray := prog_1_method_22_code
def yX6_part : MethodName := ⟨RX6, "part", "(II)I"⟩
abbrev cX6_count : ByteArray := prog_1_method_23_code
def yX6_count : MethodName := ⟨RX6, "count", "(I)I"⟩
abbrev cX6_meanVoltage : ByteArray := prog_1_method_24_code
def yX6_meanVoltage : MethodName := ⟨RX6, "meanVoltage", "()D"⟩
abbrev cX6_digest : ByteArray := prog_1_method_25_code
def yX6_digest : MethodName := ⟨RX6, "digest", "()J"⟩
abbrev cX6_mixedParts : ByteArray := prog_1_method_26_code
def yX6_mixedParts : MethodName := ⟨RX6, "mixedParts", "(J)J"⟩
abbrev cX6_mixedVoltages : ByteArray := prog_1_method_27_code
def yX6_mixedVoltages : MethodName := ⟨RX6, "mixedVoltages", "(J)J"⟩
abbrev cX6_mixedAmplifiers : ByteArray := prog_1_method_28_code
def yX6_mixedAmplifiers : MethodName := ⟨RX6, "mixedAmplifiers", "(J)J"⟩
abbrev cX6_holdingCases : ByteArray := prog_1_method_29_code
def yX6_holdingCases : MethodName := ⟨RX6, "holdingCases", "()I"⟩
abbrev cX6_determinedCases : ByteArray := prog_1_method_30_code
def yX6_determinedCases : MethodName := ⟨RX6, "determinedCases", "()I"⟩
abbrev cX6_requirePart : ByteArray := prog_1_method_31_code
def yX6_requirePart : MethodName := ⟨RX6, "requirePart", "(I)V"⟩
abbrev cX6_requireSource : ByteArray := prog_1_method_32_code
def yX6_requireSource : MethodName := ⟨RX6, "requireSource", "(I)V"⟩
abbrev cX6_requireSettable : ByteArray := prog_1_method_33_code
def yX6_requireSettable : MethodName := ⟨RX6, "requireSettable", "(II)V"⟩
abbrev cX6_requireImage : ByteArray := prog_1_method_34_code
def yX6_requireImage : MethodName := ⟨RX6, "requireImage", "(I)V"⟩
abbrev cX6_requireCase : ByteArray := prog_1_method_35_code
def yX6_requireCase : MethodName := ⟨RX6, "requireCase", "(I)V"⟩
abbrev cX6_requireNode : ByteArray := prog_1_method_36_code
def yX6_requireNode : MethodName := ⟨RX6, "requireNode", "(I)V"⟩
abbrev cX6_requireFractionSide : ByteArray := prog_1_method_37_code
def yX6_requireFractionSide : MethodName := ⟨RX6, "requireFractionSide", "(I)V"⟩
abbrev cX6_isSourceValue : ByteArray := prog_1_method_38_code
def yX6_isSourceValue : MethodName := ⟨RX6, "isSourceValue", "(I)Z"⟩
abbrev cX6_contains : ByteArray := prog_1_method_39_code
def yX6_contains : MethodName := ⟨RX6, "contains", "(II)Z"⟩
abbrev cX6_stateIn : ByteArray := prog_1_method_40_code
def yX6_stateIn : MethodName := ⟨RX6, "stateIn", "(II)I"⟩
abbrev cX6_mixed : ByteArray := prog_1_method_41_code
def yX6_mixed : MethodName := ⟨RX6, "mixed", "(JJ)J"⟩
abbrev cX6_lowestTerms : ByteArray := prog_1_method_42_code
def yX6_lowestTerms : MethodName := ⟨RX6, "lowestTerms", "(JJI)J"⟩
abbrev cX6_greatestDivisor : ByteArray := prog_1_method_43_code
def yX6_greatestDivisor : MethodName := ⟨RX6, "greatestDivisor", "(JJ)J"⟩
abbrev cX6_bitsOf : ByteArray := prog_1_method_44_code
def yX6_bitsOf : MethodName := ⟨RX6, "bitsOf", "(D)J"⟩
def RX7 : String := "AmplifierDeskModel"
def TX7 : u_T := fun k => match k with
  | 0 => ("AmplifierDeskModel", "thrown", "I", false)
  | 1 => ("AmplifierDeskModel", "z", "[I", true)
  | 2 => ("AmplifierDeskModel", "aside", "[I", true)
  | 3 => ("AmplifierDeskModel", "states", "I", false)
  | 4 => ("AmplifierDeskModel", "history", "[I", true)
  | 5 => ("AmplifierDeskModel", "kept", "I", false)
  | 6 => ("AmplifierDeskModel", "images", "[I", true)
  | 7 => ("AmplifierDeskModel", "length", "I", false)
  | 8 => ("AmplifierDeskModel", "buffer", "[I", true)
  | 9 => ("AmplifierDeskModel", "unknowns", "I", false)
  | 10 => ("AmplifierDeskModel", "columnOf", "[I", true)
  | 11 => ("AmplifierDeskModel", "rules", "[J", true)
  | 12 => ("AmplifierDeskModel", "rows", "I", false)
  | 13 => ("AmplifierDeskModel", "m", "[J", true)
  | 14 => ("AmplifierDeskModel", "voltages", "[J", true)
  | 15 => ("AmplifierDeskModel", "denominator", "J", false)
  | 16 => ("AmplifierDeskModel", "concernedBy", "I", false)
  | 17 => ("AmplifierDeskModel", "readParts", "I", false)
  | 18 => ("AmplifierDeskModel", "read", "[I", true)
  | 19 => ("AmplifierDeskModel", "place", "I", false)
  | 20 => ("AmplifierDeskModel", "isNegative", "Z", false)
  | 21 => ("AmplifierDeskModel", "digits", "I", false)
  | 22 => ("AmplifierDeskModel", "number", "I", false)
  | _ => ("AmplifierDeskModel", "hash", "J", false)
def tyX7 : Nat → FieldType := fun k => match k with
  | 0 => .int
  | 1 => .array .int
  | 2 => .array .int
  | 3 => .int
  | 4 => .array .int
  | 5 => .int
  | 6 => .array .int
  | 7 => .int
  | 8 => .array .int
  | 9 => .int
  | 10 => .array .int
  | 11 => .array .long
  | 12 => .int
  | 13 => .array .long
  | 14 => .array .long
  | 15 => .long
  | 16 => .int
  | 17 => .int
  | 18 => .array .int
  | 19 => .int
  | 20 => .boolean
  | 21 => .int
  | 22 => .int
  | _ => .long
abbrev wsX70 : List Cond := u_ws RX7 TX7 24
theorem nmX7 : ∀ a, a < 24 → ∀ b, b < 24 → a ≠ b → (TX7 a).2.1 ≠ (TX7 b).2.1 := by decide +kernel
theorem tyX7_ok : ∀ k, k < 24 → parseFieldDescriptor (TX7 k).2.2.1 = some (tyX7 k) := by decide +kernel
abbrev cX7_init : ByteArray := prog_9_method_1_code
def yX7_init : MethodName := ⟨RX7, "<init>", "()V"⟩
abbrev cX7_thrown : ByteArray := prog_9_method_2_code
def yX7_thrown : MethodName := ⟨RX7, "thrown", "()I"⟩
abbrev cX7_within : ByteArray := prog_9_method_3_code
def yX7_within : MethodName := ⟨RX7, "within", "(III)Z"⟩
abbrev cX7_of : ByteArray := prog_9_method_4_code
def yX7_of : MethodName := ⟨RX7, "of", "(II)I"⟩
abbrev cX7_isPart : ByteArray := prog_9_method_5_code
def yX7_isPart : MethodName := ⟨RX7, "isPart", "(I)Z"⟩
abbrev cX7_is : ByteArray := prog_9_method_6_code
def yX7_is : MethodName := ⟨RX7, "is", "(II)Z"⟩
abbrev cX7_copy : ByteArray := prog_9_method_7_code
def yX7_copy : MethodName := ⟨RX7, "copy", "([II[II)V"⟩
abbrev cX7_record : ByteArray := prog_9_method_8_code
def yX7_record : MethodName := ⟨RX7, "record", "()V"⟩
abbrev cX7_amplifiers : ByteArray := prog_9_method_9_code
def yX7_amplifiers : MethodName := ⟨RX7, "amplifiers", "()I"⟩
abbrev cX7_partOf : ByteArray := prog_9_method_10_code
def yX7_partOf : MethodName := ⟨RX7, "partOf", "(I)I"⟩
abbrev cX7_cases : ByteArray := prog_9_method_11_code
def yX7_cases : MethodName := ⟨RX7, "cases", "()I"⟩
abbrev cX7_stateIn : ByteArray := prog_9_method_12_code
def yX7_stateIn : MethodName := ⟨RX7, "stateIn", "(II)I"⟩
abbrev cX7_isAt : ByteArray := prog_9_method_13_code
def yX7_isAt : MethodName := ⟨RX7, "isAt", "(II)Z"⟩
abbrev cX7_isUsed : ByteArray := prog_9_method_14_code
def yX7_isUsed : MethodName := ⟨RX7, "isUsed", "(I)Z"⟩
abbrev cX7_sourceAt : ByteArray := prog_9_method_15_code
def yX7_sourceAt : MethodName := ⟨RX7, "sourceAt", "(I)I"⟩
abbrev cX7_isOutput : ByteArray := prog_9_method_16_code
def yX7_isOutput : MethodName := ⟨RX7, "isOutput", "(I)Z"⟩
abbrev cX7_isFree : ByteArray := prog_9_method_17_code
def yX7_isFree : MethodName := ⟨RX7, "isFree", "(I)Z"⟩
abbrev cX7_layUnknowns : ByteArray := prog_9_method_18_code
def yX7_layUnknowns : MethodName := ⟨RX7, "layUnknowns", "()V"⟩
abbrev cX7_addTo : ByteArray := prog_9_method_19_code
def yX7_addTo : MethodName := ⟨RX7, "addTo", "(IJZ)V"⟩
abbrev cX7_currents : ByteArray := prog_9_method_20_code
def yX7_currents : MethodName := ⟨RX7, "currents", "(IZ)V"⟩
abbrev cX7_amplifierRule : ByteArray := prog_9_method_21_code
def yX7_amplifierRule : MethodName := ⟨RX7, "amplifierRule", "(III)V"⟩
abbrev cX7_layRules : ByteArray := prog_9_method_22_code
def yX7_layRules : MethodName := ⟨RX7, "layRules", "(II)V"⟩
abbrev cX7_determinant : ByteArray := prog_9_method_23_code
def yX7_determinant : MethodName := ⟨RX7, "determinant", "(I)J"⟩
abbrev cX7_solve : ByteArray := prog_9_method_24_code
def yX7_solve : MethodName := ⟨RX7, "solve", "(II)Z"⟩
abbrev cX7_input : ByteArray := prog_9_method_25_code
def yX7_input : MethodName := ⟨RX7, "input", "(I)J"⟩
abbrev cX7_fault : ByteArray := prog_9_method_26_code
def yX7_fault : MethodName := ⟨RX7, "fault", "(II)I"⟩
abbrev cX7_reason : ByteArray := prog_9_method_27_code
def yX7_reason : MethodName := ⟨RX7, "reason", "(I)I"⟩
abbrev cX7_unlike : ByteArray := prog_9_method_28_code
def yX7_unlike : MethodName := ⟨RX7, "unlike", "(II)I"⟩
abbrev cX7_settle : ByteArray := prog_9_method_29_code
def yX7_settle : MethodName := ⟨RX7, "settle", "()V"⟩
abbrev cX7_begin : ByteArray := prog_9_method_30_code
def yX7_begin : MethodName := ⟨RX7, "begin", "()I"⟩
abbrev cX7_setRail : ByteArray := prog_9_method_31_code
def yX7_setRail : MethodName := ⟨RX7, "setRail", "(I)I"⟩
abbrev cX7_isValue : ByteArray := prog_9_method_32_code
def yX7_isValue : MethodName := ⟨RX7, "isValue", "(II)Z"⟩
abbrev cX7_setValue : ByteArray := prog_9_method_33_code
def yX7_setValue : MethodName := ⟨RX7, "setValue", "(II)I"⟩
abbrev cX7_takeOut : ByteArray := prog_9_method_34_code
def yX7_takeOut : MethodName := ⟨RX7, "takeOut", "(I)V"⟩
abbrev cX7_drop : ByteArray := prog_9_method_35_code
def yX7_drop : MethodName := ⟨RX7, "drop", "(I)I"⟩
abbrev cX7_sweep : ByteArray := prog_9_method_36_code
def yX7_sweep : MethodName := ⟨RX7, "sweep", "(II)I"⟩
abbrev cX7_undo : ByteArray := prog_9_method_37_code
def yX7_undo : MethodName := ⟨RX7, "undo", "()I"⟩
abbrev cX7_keep : ByteArray := prog_9_method_38_code
def yX7_keep : MethodName := ⟨RX7, "keep", "(I)I"⟩
abbrev cX7_back : ByteArray := prog_9_method_39_code
def yX7_back : MethodName := ⟨RX7, "back", "(I)I"⟩
abbrev cX7_append : ByteArray := prog_9_method_40_code
def yX7_append : MethodName := ⟨RX7, "append", "(I)I"⟩
abbrev cX7_clearInput : ByteArray := prog_9_method_41_code
def yX7_clearInput : MethodName := ⟨RX7, "clearInput", "()I"⟩
abbrev cX7_put : ByteArray := prog_9_method_42_code
def yX7_put : MethodName := ⟨RX7, "put", "(II)V"⟩
abbrev cX7_takesLetter : ByteArray := prog_9_method_43_code
def yX7_takesLetter : MethodName := ⟨RX7, "takesLetter", "(I)Z"⟩
abbrev cX7_takesNode : ByteArray := prog_9_method_44_code
def yX7_takesNode : MethodName := ⟨RX7, "takesNode", "(III)Z"⟩
abbrev cX7_takesLast : ByteArray := prog_9_method_45_code
def yX7_takesLast : MethodName := ⟨RX7, "takesLast", "(I)Z"⟩
abbrev cX7_takesValue : ByteArray := prog_9_method_46_code
def yX7_takesValue : MethodName := ⟨RX7, "takesValue", "(I)Z"⟩
abbrev cX7_isOver : ByteArray := prog_9_method_47_code
def yX7_isOver : MethodName := ⟨RX7, "isOver", "()Z"⟩
abbrev cX7_takes : ByteArray := prog_9_method_48_code
def yX7_takes : MethodName := ⟨RX7, "takes", "(I)Z"⟩
abbrev cX7_rightLength : ByteArray := prog_9_method_49_code
def yX7_rightLength : MethodName := ⟨RX7, "rightLength", "()I"⟩
abbrev cX7_firstError : ByteArray := prog_9_method_50_code
def yX7_firstError : MethodName := ⟨RX7, "firstError", "()I"⟩
abbrev cX7_canBe : ByteArray := prog_9_method_51_code
def yX7_canBe : MethodName := ⟨RX7, "canBe", "(I)Z"⟩
abbrev cX7_fits : ByteArray := prog_9_method_52_code
def yX7_fits : MethodName := ⟨RX7, "fits", "()Z"⟩
abbrev cX7_load : ByteArray := prog_9_method_53_code
def yX7_load : MethodName := ⟨RX7, "load", "()I"⟩
abbrev cX7_common : ByteArray := prog_9_method_54_code
def yX7_common : MethodName := ⟨RX7, "common", "(JJ)J"⟩
abbrev cX7_reduced : ByteArray := prog_9_method_55_code
def yX7_reduced : MethodName := ⟨RX7, "reduced", "(JI)J"⟩
abbrev cX7_voltageNow : ByteArray := prog_9_method_56_code
def yX7_voltageNow : MethodName := ⟨RX7, "voltageNow", "(III)J"⟩
abbrev cX7_isNode : ByteArray := prog_9_method_57_code
def yX7_isNode : MethodName := ⟨RX7, "isNode", "(I)Z"⟩
abbrev cX7_present : ByteArray := prog_9_method_58_code
def yX7_present : MethodName := ⟨RX7, "present", "(II)J"⟩
abbrev cX7_voltage : ByteArray := prog_9_method_59_code
def yX7_voltage : MethodName := ⟨RX7, "voltage", "(II)J"⟩
abbrev cX7_current : ByteArray := prog_9_method_60_code
def yX7_current : MethodName := ⟨RX7, "current", "(II)J"⟩
abbrev cX7_signNow : ByteArray := prog_9_method_61_code
def yX7_signNow : MethodName := ⟨RX7, "signNow", "(I)I"⟩
abbrev cX7_amplifierNow : ByteArray := prog_9_method_62_code
def yX7_amplifierNow : MethodName := ⟨RX7, "amplifierNow", "(II)I"⟩
abbrev cX7_amplifier : ByteArray := prog_9_method_63_code
def yX7_amplifier : MethodName := ⟨RX7, "amplifier", "(II)I"⟩
abbrev cX7_isCase : ByteArray := prog_9_method_64_code
def yX7_isCase : MethodName := ⟨RX7, "isCase", "(I)Z"⟩
abbrev cX7_why : ByteArray := prog_9_method_65_code
def yX7_why : MethodName := ⟨RX7, "why", "(I)I"⟩
abbrev cX7_concernedNow : ByteArray := prog_9_method_66_code
def yX7_concernedNow : MethodName := ⟨RX7, "concernedNow", "(I)I"⟩
abbrev cX7_concerned : ByteArray := prog_9_method_67_code
def yX7_concerned : MethodName := ⟨RX7, "concerned", "(I)I"⟩
abbrev cX7_inCase : ByteArray := prog_9_method_68_code
def yX7_inCase : MethodName := ⟨RX7, "inCase", "(III)J"⟩
abbrev cX7_tripNow : ByteArray := prog_9_method_69_code
def yX7_tripNow : MethodName := ⟨RX7, "tripNow", "(II)I"⟩
abbrev cX7_trip : ByteArray := prog_9_method_70_code
def yX7_trip : MethodName := ⟨RX7, "trip", "(IZ)I"⟩
abbrev cX7_ifValue : ByteArray := prog_9_method_71_code
def yX7_ifValue : MethodName := ⟨RX7, "ifValue", "(II)I"⟩
abbrev cX7_part : ByteArray := prog_9_method_72_code
def yX7_part : MethodName := ⟨RX7, "part", "(II)I"⟩
abbrev cX7_casesThat : ByteArray := prog_9_method_73_code
def yX7_casesThat : MethodName := ⟨RX7, "casesThat", "(Z)I"⟩
abbrev cX7_usedNodes : ByteArray := prog_9_method_74_code
def yX7_usedNodes : MethodName := ⟨RX7, "usedNodes", "()I"⟩
abbrev cX7_counted : ByteArray := prog_9_method_75_code
def yX7_counted : MethodName := ⟨RX7, "counted", "(I)I"⟩
abbrev cX7_count : ByteArray := prog_9_method_76_code
def yX7_count : MethodName := ⟨RX7, "count", "(I)I"⟩
abbrev cX7_meanNow : ByteArray := prog_9_method_77_code
def yX7_meanNow : MethodName := ⟨RX7, "meanNow", "()D"⟩
abbrev cX7_meanVoltage : ByteArray := prog_9_method_78_code
def yX7_meanVoltage : MethodName := ⟨RX7, "meanVoltage", "()D"⟩
abbrev cX7_mix : ByteArray := prog_9_method_79_code
def yX7_mix : MethodName := ⟨RX7, "mix", "(J)V"⟩
abbrev cX7_digest : ByteArray := prog_9_method_80_code
def yX7_digest : MethodName := ⟨RX7, "digest", "()J"⟩
def RJx145de : String := "java/io/Serializable"
def TJx145de : u_T := fun k => match k with
  | _ => ("", "", "", false)
def tyJx145de : Nat → FieldType := fun k => match k with
  | _ => .int
abbrev wsJx145de0 : List Cond := u_ws RJx145de TJx145de 0
theorem nmJx145de : ∀ a, a < 0 → ∀ b, b < 0 → a ≠ b → (TJx145de a).2.1 ≠ (TJx145de b).2.1 := by decide +kernel
theorem tyJx145de_ok : ∀ k, k < 0 → parseFieldDescriptor (TJx145de k).2.2.1 = some (tyJx145de k) := by decide +kernel
def RJxb160c : String := "java/lang/Comparable"
def TJxb160c : u_T := fun k => match k with
  | _ => ("", "", "", false)
def tyJxb160c : Nat → FieldType := fun k => match k with
  | _ => .int
abbrev wsJxb160c0 : List Cond := u_ws RJxb160c TJxb160c 0
theorem nmJxb160c : ∀ a, a < 0 → ∀ b, b < 0 → a ≠ b → (TJxb160c a).2.1 ≠ (TJxb160c b).2.1 := by decide +kernel
theorem tyJxb160c_ok : ∀ k, k < 0 → parseFieldDescriptor (TJxb160c k).2.2.1 = some (tyJxb160c k) := by decide +kernel
def RJxe99ae : String := "java/lang/Double"
def TJxe99ae : u_T := fun k => match k with
  | _ => ("", "", "", false)
def tyJxe99ae : Nat → FieldType := fun k => match k with
  | _ => .int
abbrev wsJxe99ae0 : List Cond := u_ws RJxe99ae TJxe99ae 0
theorem nmJxe99ae : ∀ a, a < 0 → ∀ b, b < 0 → a ≠ b → (TJxe99ae a).2.1 ≠ (TJxe99ae b).2.1 := by decide +kernel
theorem tyJxe99ae_ok : ∀ k, k < 0 → parseFieldDescriptor (TJxe99ae k).2.2.1 = some (tyJxe99ae k) := by decide +kernel
abbrev cJxe99ae_isNaN_b9ae7 : ByteArray := prog_10_method_6_code
def yJxe99ae_isNaN_b9ae7 : MethodName := ⟨RJxe99ae, "isNaN", "(D)Z"⟩
abbrev cJxe99ae_doubleToLongBits_ccdee : ByteArray := prog_10_method_23_code
def yJxe99ae_doubleToLongBits_ccdee : MethodName := ⟨RJxe99ae, "doubleToLongBits", "(D)J"⟩
def RJ6 : String := "java/lang/Integer"
def TJ6 : u_T := fun k => match k with
  | _ => ("", "", "", false)
def tyJ6 : Nat → FieldType := fun k => match k with
  | _ => .int
abbrev wsJ60 : List Cond := u_ws RJ6 TJ6 0
theorem nmJ6 : ∀ a, a < 0 → ∀ b, b < 0 → a ≠ b → (TJ6 a).2.1 ≠ (TJ6 b).2.1 := by decide +kernel
theorem tyJ6_ok : ∀ k, k < 0 → parseFieldDescriptor (TJ6 k).2.2.1 = some (tyJ6 k) := by decide +kernel
abbrev cJ6_bitCount_0f7a4 : ByteArray := prog_15_method_49_code
def yJ6_bitCount_0f7a4 : MethodName := ⟨RJ6, "bitCount", "(I)I"⟩
def RJ13 : String := "java/lang/Long"
def TJ13 : u_T := fun k => match k with
  | _ => ("", "", "", false)
def tyJ13 : Nat → FieldType := fun k => match k with
  | _ => .int
abbrev wsJ130 : List Cond := u_ws RJ13 TJ13 0
theorem nmJ13 : ∀ a, a < 0 → ∀ b, b < 0 → a ≠ b → (TJ13 a).2.1 ≠ (TJ13 b).2.1 := by decide +kernel
theorem tyJ13_ok : ∀ k, k < 0 → parseFieldDescriptor (TJ13 k).2.2.1 = some (tyJ13 k) := by decide +kernel
abbrev cJ13_compare_74951 : ByteArray := prog_16_method_42_code
def yJ13_compare_74951 : MethodName := ⟨RJ13, "compare", "(JJ)I"⟩
def RJ9 : String := "java/lang/Math"
def TJ9 : u_T := fun k => match k with
  | _ => ("", "", "", false)
def tyJ9 : Nat → FieldType := fun k => match k with
  | _ => .int
abbrev wsJ90 : List Cond := u_ws RJ9 TJ9 0
theorem nmJ9 : ∀ a, a < 0 → ∀ b, b < 0 → a ≠ b → (TJ9 a).2.1 ≠ (TJ9 b).2.1 := by decide +kernel
theorem tyJ9_ok : ∀ k, k < 0 → parseFieldDescriptor (TJ9 k).2.2.1 = some (tyJ9 k) := by decide +kernel
abbrev cJ9_abs_0f7a4 : ByteArray := prog_17_method_59_code
def yJ9_abs_0f7a4 : MethodName := ⟨RJ9, "abs", "(I)I"⟩
abbrev cJ9_abs_067f4 : ByteArray := prog_17_method_61_code
def yJ9_abs_067f4 : MethodName := ⟨RJ9, "abs", "(J)J"⟩
def RJxd2413 : String := "java/lang/Number"
def TJxd2413 : u_T := fun k => match k with
  | _ => ("", "", "", false)
def tyJxd2413 : Nat → FieldType := fun k => match k with
  | _ => .int
abbrev wsJxd24130 : List Cond := u_ws RJxd2413 TJxd2413 0
theorem nmJxd2413 : ∀ a, a < 0 → ∀ b, b < 0 → a ≠ b → (TJxd2413 a).2.1 ≠ (TJxd2413 b).2.1 := by decide +kernel
theorem tyJxd2413_ok : ∀ k, k < 0 → parseFieldDescriptor (TJxd2413 k).2.2.1 = some (tyJxd2413 k) := by decide +kernel
def RJ0 : String := "java/lang/String"
def TJ0 : u_T := fun k => match k with
  | _ => ("", "", "", false)
def tyJ0 : Nat → FieldType := fun k => match k with
  | _ => .int
abbrev wsJ00 : List Cond := u_ws RJ0 TJ0 0
theorem nmJ0 : ∀ a, a < 0 → ∀ b, b < 0 → a ≠ b → (TJ0 a).2.1 ≠ (TJ0 b).2.1 := by decide +kernel
theorem tyJ0_ok : ∀ k, k < 0 → parseFieldDescriptor (TJ0 k).2.2.1 = some (tyJ0 k) := by decide +kernel
def RJxfd54e : String := "java/lang/constant/Constable"
def TJxfd54e : u_T := fun k => match k with
  | _ => ("", "", "", false)
def tyJxfd54e : Nat → FieldType := fun k => match k with
  | _ => .int
abbrev wsJxfd54e0 : List Cond := u_ws RJxfd54e TJxfd54e 0
theorem nmJxfd54e : ∀ a, a < 0 → ∀ b, b < 0 → a ≠ b → (TJxfd54e a).2.1 ≠ (TJxfd54e b).2.1 := by decide +kernel
theorem tyJxfd54e_ok : ∀ k, k < 0 → parseFieldDescriptor (TJxfd54e k).2.2.1 = some (tyJxfd54e k) := by decide +kernel
def RJx3cf43 : String := "java/lang/constant/ConstantDesc"
def TJx3cf43 : u_T := fun k => match k with
  | _ => ("", "", "", false)
def tyJx3cf43 : Nat → FieldType := fun k => match k with
  | _ => .int
abbrev wsJx3cf430 : List Cond := u_ws RJx3cf43 TJx3cf43 0
theorem nmJx3cf43 : ∀ a, a < 0 → ∀ b, b < 0 → a ≠ b → (TJx3cf43 a).2.1 ≠ (TJx3cf43 b).2.1 := by decide +kernel
theorem tyJx3cf43_ok : ∀ k, k < 0 → parseFieldDescriptor (TJx3cf43 k).2.2.1 = some (tyJx3cf43 k) := by decide +kernel
def RJ7 : String := "java/util/Arrays"
def TJ7 : u_T := fun k => match k with
  | _ => ("", "", "", false)
def tyJ7 : Nat → FieldType := fun k => match k with
  | _ => .int
abbrev wsJ70 : List Cond := u_ws RJ7 TJ7 0
theorem nmJ7 : ∀ a, a < 0 → ∀ b, b < 0 → a ≠ b → (TJ7 a).2.1 ≠ (TJ7 b).2.1 := by decide +kernel
theorem tyJ7_ok : ∀ k, k < 0 → parseFieldDescriptor (TJ7 k).2.2.1 = some (tyJ7 k) := by decide +kernel
abbrev cJ7_fill_d0a16 : ByteArray := prog_22_method_101_code
def yJ7_fill_d0a16 : MethodName := ⟨RJ7, "fill", "([JJ)V"⟩
def RL : String := "AmplifierDeskLaw"
abbrev cL_load : ByteArray := method_3_code
def yL_load : MethodName := ⟨RL, "load", "(LAmplifierDesk;[J)I"⟩
abbrev cL_setValue : ByteArray := method_4_code
def yL_setValue : MethodName := ⟨RL, "setValue", "(LAmplifierDesk;II[J)I"⟩
abbrev cL_setRail : ByteArray := method_5_code
def yL_setRail : MethodName := ⟨RL, "setRail", "(LAmplifierDesk;I[J)I"⟩
abbrev cL_drop : ByteArray := method_6_code
def yL_drop : MethodName := ⟨RL, "drop", "(LAmplifierDesk;I[J)I"⟩
abbrev cL_sweep : ByteArray := method_7_code
def yL_sweep : MethodName := ⟨RL, "sweep", "(LAmplifierDesk;II[J)I"⟩
abbrev cL_undo : ByteArray := method_8_code
def yL_undo : MethodName := ⟨RL, "undo", "(LAmplifierDesk;[J)I"⟩
abbrev cL_keep : ByteArray := method_9_code
def yL_keep : MethodName := ⟨RL, "keep", "(LAmplifierDesk;I[J)I"⟩
abbrev cL_back : ByteArray := method_10_code
def yL_back : MethodName := ⟨RL, "back", "(LAmplifierDesk;I[J)I"⟩
abbrev cL_append : ByteArray := method_11_code
def yL_append : MethodName := ⟨RL, "append", "(LAmplifierDesk;I[J)I"⟩
abbrev cL_voltage : ByteArray := method_12_code
def yL_voltage : MethodName := ⟨RL, "voltage", "(LAmplifierDesk;II[J)I"⟩
abbrev cL_current : ByteArray := method_13_code
def yL_current : MethodName := ⟨RL, "current", "(LAmplifierDesk;II[J)I"⟩
abbrev cL_amplifier : ByteArray := method_14_code
def yL_amplifier : MethodName := ⟨RL, "amplifier", "(LAmplifierDesk;II[J)I"⟩
abbrev cL_why : ByteArray := method_15_code
def yL_why : MethodName := ⟨RL, "why", "(LAmplifierDesk;I[J)I"⟩
abbrev cL_concerned : ByteArray := method_16_code
def yL_concerned : MethodName := ⟨RL, "concerned", "(LAmplifierDesk;I[J)I"⟩
abbrev cL_inCase : ByteArray := method_17_code
def yL_inCase : MethodName := ⟨RL, "inCase", "(LAmplifierDesk;III[J)I"⟩
abbrev cL_trip : ByteArray := method_18_code
def yL_trip : MethodName := ⟨RL, "trip", "(LAmplifierDesk;IZ[J)I"⟩
abbrev cL_ifValue : ByteArray := method_19_code
def yL_ifValue : MethodName := ⟨RL, "ifValue", "(LAmplifierDesk;II[J)I"⟩
abbrev cL_part : ByteArray := method_20_code
def yL_part : MethodName := ⟨RL, "part", "(LAmplifierDesk;II[J)I"⟩
abbrev cL_count : ByteArray := method_21_code
def yL_count : MethodName := ⟨RL, "count", "(LAmplifierDesk;I[J)I"⟩
abbrev cL_law : ByteArray := code
def yL_law : MethodName := ⟨RL, "law", "([I)Z"⟩
abbrev vwCl : List vw_C := [(RX0, TX0, 8), (RX1, TX1, 3), (RX2, TX2, 5), (RX3, TX3, 3), (RX4, TX4, 4), (RX5, TX5, 9), (RX6, TX6, 6), (RX7, TX7, 24)]
end
section
theorem dX0_init_0 : decode cX0_init 0 = .ok (.aload_n 0, 1) := by decide +kernel
theorem dX0_init_1 : decode cX0_init 1 = .ok (.invokespecial 3, 3) := by decide +kernel
theorem dX0_init_4 : decode cX0_init 4 = .ok (.aload_n 0, 1) := by decide +kernel
theorem dX0_init_5 : decode cX0_init 5 = .ok (.new 9, 3) := by decide +kernel
theorem dX0_init_8 : decode cX0_init 8 = .ok (.dup, 1) := by decide +kernel
theorem dX0_init_9 : decode cX0_init 9 = .ok (.invokespecial 11, 3) := by decide +kernel
theorem dX0_init_12 : decode cX0_init 12 = .ok (.putfield 12, 3) := by decide +kernel
theorem dX0_init_15 : decode cX0_init 15 = .ok (.aload_n 0, 1) := by decide +kernel
theorem dX0_init_16 : decode cX0_init 16 = .ok (.iconst 3, 1) := by decide +kernel
theorem dX0_init_17 : decode cX0_init 17 = .ok (.newarray .int, 2) := by decide +kernel
theorem dX0_init_19 : decode cX0_init 19 = .ok (.putfield 18, 3) := by decide +kernel
theorem dX0_init_22 : decode cX0_init 22 = .ok (.aload_n 0, 1) := by decide +kernel
theorem dX0_init_23 : decode cX0_init 23 = .ok (.new 22, 3) := by decide +kernel
theorem dX0_init_26 : decode cX0_init 26 = .ok (.dup, 1) := by decide +kernel
theorem dX0_init_27 : decode cX0_init 27 = .ok (.invokespecial 24, 3) := by decide +kernel
theorem dX0_init_30 : decode cX0_init 30 = .ok (.putfield 25, 3) := by decide +kernel
theorem dX0_init_33 : decode cX0_init 33 = .ok (.aload_n 0, 1) := by decide +kernel
theorem dX0_init_34 : decode cX0_init 34 = .ok (.bipush 7, 2) := by decide +kernel
theorem dX0_init_36 : decode cX0_init 36 = .ok (.newarray .long, 2) := by decide +kernel
theorem dX0_init_38 : decode cX0_init 38 = .ok (.putfield 29, 3) := by decide +kernel
theorem dX0_init_41 : decode cX0_init 41 = .ok (.return_, 1) := by decide +kernel
theorem dX0_takeOver_0 : decode cX0_takeOver 0 = .ok (.aload_n 0, 1) := by decide +kernel
theorem dX0_takeOver_1 : decode cX0_takeOver 1 = .ok (.getfield 12, 3) := by decide +kernel
theorem dX0_takeOver_4 : decode cX0_takeOver 4 = .ok (.aload_n 1, 1) := by decide +kernel
theorem dX0_takeOver_5 : decode cX0_takeOver 5 = .ok (.invokevirtual 33, 3) := by decide +kernel
theorem dX0_takeOver_8 : decode cX0_takeOver 8 = .ok (.aload_n 0, 1) := by decide +kernel
theorem dX0_takeOver_9 : decode cX0_takeOver 9 = .ok (.invokevirtual 37, 3) := by decide +kernel
theorem dX0_takeOver_12 : decode cX0_takeOver 12 = .ok (.return_, 1) := by decide +kernel
theorem dX0_solve_0 : decode cX0_solve 0 = .ok (.aload_n 0, 1) := by decide +kernel
theorem dX0_solve_1 : decode cX0_solve 1 = .ok (.iconst 0, 1) := by decide +kernel
theorem dX0_solve_2 : decode cX0_solve 2 = .ok (.putfield 40, 3) := by decide +kernel
theorem dX0_solve_5 : decode cX0_solve 5 = .ok (.iconst 0, 1) := by decide +kernel
theorem dX0_solve_6 : decode cX0_solve 6 = .ok (.istore_n 1, 1) := by decide +kernel
theorem dX0_solve_7 : decode cX0_solve 7 = .ok (.iload_n 1, 1) := by decide +kernel
theorem dX0_solve_8 : decode cX0_solve 8 = .ok (.aload_n 0, 1) := by decide +kernel
theorem dX0_solve_9 : decode cX0_solve 9 = .ok (.getfield 12, 3) := by decide +kernel
theorem dX0_solve_12 : decode cX0_solve 12 = .ok (.getfield 44, 3) := by decide +kernel
theorem dX0_solve_15 : decode cX0_solve 15 = .ok (.getfield 48, 3) := by decide +kernel
theorem dX0_solve_18 : decode cX0_solve 18 = .ok (.if_icmp .ge 53, 3) := by decide +kernel
theorem dX0_solve_21 : decode cX0_solve 21 = .ok (.aload_n 0, 1) := by decide +kernel
theorem dX0_solve_22 : decode cX0_solve 22 = .ok (.getfield 12, 3) := by decide +kernel
theorem dX0_solve_25 : decode cX0_solve 25 = .ok (.getfield 44, 3) := by decide +kernel
theorem dX0_solve_28 : decode cX0_solve 28 = .ok (.getfield 53, 3) := by decide +kernel
theorem dX0_solve_31 : decode cX0_solve 31 = .ok (.iload_n 1, 1) := by decide +kernel
theorem dX0_solve_32 : decode cX0_solve 32 = .ok (.iaload, 1) := by decide +kernel
theorem dX0_solve_33 : decode cX0_solve 33 = .ok (.iconst 2, 1) := by decide +kernel
theorem dX0_solve_34 : decode cX0_solve 34 = .ok (.if_icmp .ne 31, 3) := by decide +kernel
theorem dX0_solve_37 : decode cX0_solve 37 = .ok (.aload_n 0, 1) := by decide +kernel
theorem dX0_solve_38 : decode cX0_solve 38 = .ok (.getfield 40, 3) := by decide +kernel
theorem dX0_solve_41 : decode cX0_solve 41 = .ok (.iconst 3, 1) := by decide +kernel
theorem dX0_solve_42 : decode cX0_solve 42 = .ok (.if_icmp .ge 23, 3) := by decide +kernel
theorem dX0_solve_45 : decode cX0_solve 45 = .ok (.aload_n 0, 1) := by decide +kernel
theorem dX0_solve_46 : decode cX0_solve 46 = .ok (.getfield 18, 3) := by decide +kernel
theorem dX0_solve_49 : decode cX0_solve 49 = .ok (.aload_n 0, 1) := by decide +kernel
theorem dX0_solve_50 : decode cX0_solve 50 = .ok (.getfield 40, 3) := by decide +kernel
theorem dX0_solve_53 : decode cX0_solve 53 = .ok (.iload_n 1, 1) := by decide +kernel
theorem dX0_solve_54 : decode cX0_solve 54 = .ok (.iastore, 1) := by decide +kernel
theorem dX0_solve_55 : decode cX0_solve 55 = .ok (.aload_n 0, 1) := by decide +kernel
theorem dX0_solve_56 : decode cX0_solve 56 = .ok (.dup, 1) := by decide +kernel
theorem dX0_solve_57 : decode cX0_solve 57 = .ok (.getfield 40, 3) := by decide +kernel
theorem dX0_solve_60 : decode cX0_solve 60 = .ok (.iconst 1, 1) := by decide +kernel
theorem dX0_solve_61 : decode cX0_solve 61 = .ok (.iadd, 1) := by decide +kernel
theorem dX0_solve_62 : decode cX0_solve 62 = .ok (.putfield 40, 3) := by decide +kernel
theorem dX0_solve_65 : decode cX0_solve 65 = .ok (.iinc 1 1, 3) := by decide +kernel
theorem dX0_solve_68 : decode cX0_solve 68 = .ok (.goto (-61), 3) := by decide +kernel
theorem dX0_solve_71 : decode cX0_solve 71 = .ok (.aload_n 0, 1) := by decide +kernel
theorem dX0_solve_72 : decode cX0_solve 72 = .ok (.getfield 25, 3) := by decide +kernel
theorem dX0_solve_75 : decode cX0_solve 75 = .ok (.aload_n 0, 1) := by decide +kernel
theorem dX0_solve_76 : decode cX0_solve 76 = .ok (.getfield 12, 3) := by decide +kernel
theorem dX0_solve_79 : decode cX0_solve 79 = .ok (.getfield 44, 3) := by decide +kernel
theorem dX0_solve_82 : decode cX0_solve 82 = .ok (.aload_n 0, 1) := by decide +kernel
theorem dX0_solve_83 : decode cX0_solve 83 = .ok (.getfield 40, 3) := by decide +kernel
theorem dX0_solve_86 : decode cX0_solve 86 = .ok (.invokevirtual 56, 3) := by decide +kernel
theorem dX0_solve_89 : decode cX0_solve 89 = .ok (.return_, 1) := by decide +kernel
theorem dX0_cases_0 : decode cX0_cases 0 = .ok (.getstatic 59, 3) := by decide +kernel
theorem dX0_cases_3 : decode cX0_cases 3 = .ok (.aload_n 0, 1) := by decide +kernel
theorem dX0_cases_4 : decode cX0_cases 4 = .ok (.getfield 40, 3) := by decide +kernel
theorem dX0_cases_7 : decode cX0_cases 7 = .ok (.iaload, 1) := by decide +kernel
theorem dX0_cases_8 : decode cX0_cases 8 = .ok (.ireturn, 1) := by decide +kernel
theorem dX0_settle_0 : decode cX0_settle 0 = .ok (.aload_n 0, 1) := by decide +kernel
theorem dX0_settle_1 : decode cX0_settle 1 = .ok (.aload_n 0, 1) := by decide +kernel
theorem dX0_settle_2 : decode cX0_settle 2 = .ok (.getfield 12, 3) := by decide +kernel
theorem dX0_settle_5 : decode cX0_settle 5 = .ok (.getfield 62, 3) := by decide +kernel
theorem dX0_settle_8 : decode cX0_settle 8 = .ok (.invokevirtual 65, 3) := by decide +kernel
theorem dX0_settle_11 : decode cX0_settle 11 = .ok (.ifCond .eq 12, 3) := by decide +kernel
theorem dX0_settle_14 : decode cX0_settle 14 = .ok (.aload_n 0, 1) := by decide +kernel
theorem dX0_settle_15 : decode cX0_settle 15 = .ok (.getfield 12, 3) := by decide +kernel
theorem dX0_settle_18 : decode cX0_settle 18 = .ok (.iconst 1, 1) := by decide +kernel
theorem dX0_settle_19 : decode cX0_settle 19 = .ok (.putfield 69, 3) := by decide +kernel
theorem dX0_settle_22 : decode cX0_settle 22 = .ok (.return_, 1) := by decide +kernel
theorem dX0_settle_23 : decode cX0_settle 23 = .ok (.iconst (-1), 1) := by decide +kernel
theorem dX0_settle_24 : decode cX0_settle 24 = .ok (.istore_n 1, 1) := by decide +kernel
theorem dX0_settle_25 : decode cX0_settle 25 = .ok (.iconst 4, 1) := by decide +kernel
theorem dX0_settle_26 : decode cX0_settle 26 = .ok (.istore_n 2, 1) := by decide +kernel
theorem dX0_settle_27 : decode cX0_settle 27 = .ok (.iconst 0, 1) := by decide +kernel
theorem dX0_settle_28 : decode cX0_settle 28 = .ok (.istore_n 3, 1) := by decide +kernel
theorem dX0_settle_29 : decode cX0_settle 29 = .ok (.iload_n 3, 1) := by decide +kernel
theorem dX0_settle_30 : decode cX0_settle 30 = .ok (.aload_n 0, 1) := by decide +kernel
theorem dX0_settle_31 : decode cX0_settle 31 = .ok (.invokevirtual 73, 3) := by decide +kernel
theorem dX0_settle_34 : decode cX0_settle 34 = .ok (.if_icmp .ge 35, 3) := by decide +kernel
theorem dX0_settle_37 : decode cX0_settle 37 = .ok (.aload_n 0, 1) := by decide +kernel
theorem dX0_settle_38 : decode cX0_settle 38 = .ok (.iload_n 3, 1) := by decide +kernel
theorem dX0_settle_39 : decode cX0_settle 39 = .ok (.invokevirtual 77, 3) := by decide +kernel
theorem dX0_settle_42 : decode cX0_settle 42 = .ok (.istore 4, 2) := by decide +kernel
theorem dX0_settle_44 : decode cX0_settle 44 = .ok (.iload 4, 2) := by decide +kernel
theorem dX0_settle_46 : decode cX0_settle 46 = .ok (.iload_n 2, 1) := by decide +kernel
theorem dX0_settle_47 : decode cX0_settle 47 = .ok (.if_icmp .ge 16, 3) := by decide +kernel
theorem dX0_settle_50 : decode cX0_settle 50 = .ok (.aload_n 0, 1) := by decide +kernel
theorem dX0_settle_51 : decode cX0_settle 51 = .ok (.iload_n 3, 1) := by decide +kernel
theorem dX0_settle_52 : decode cX0_settle 52 = .ok (.invokevirtual 65, 3) := by decide +kernel
theorem dX0_settle_55 : decode cX0_settle 55 = .ok (.ifCond .eq 8, 3) := by decide +kernel
theorem dX0_settle_58 : decode cX0_settle 58 = .ok (.iload_n 3, 1) := by decide +kernel
theorem dX0_settle_59 : decode cX0_settle 59 = .ok (.istore_n 1, 1) := by decide +kernel
theorem dX0_settle_60 : decode cX0_settle 60 = .ok (.iload 4, 2) := by decide +kernel
theorem dX0_settle_62 : decode cX0_settle 62 = .ok (.istore_n 2, 1) := by decide +kernel
theorem dX0_settle_63 : decode cX0_settle 63 = .ok (.iinc 3 1, 3) := by decide +kernel
theorem dX0_settle_66 : decode cX0_settle 66 = .ok (.goto (-37), 3) := by decide +kernel
theorem dX0_settle_69 : decode cX0_settle 69 = .ok (.aload_n 0, 1) := by decide +kernel
theorem dX0_settle_70 : decode cX0_settle 70 = .ok (.getfield 12, 3) := by decide +kernel
theorem dX0_settle_73 : decode cX0_settle 73 = .ok (.iload_n 1, 1) := by decide +kernel
theorem dX0_settle_74 : decode cX0_settle 74 = .ok (.iconst (-1), 1) := by decide +kernel
theorem dX0_settle_75 : decode cX0_settle 75 = .ok (.if_icmp .eq 7, 3) := by decide +kernel
theorem dX0_settle_78 : decode cX0_settle 78 = .ok (.iconst 1, 1) := by decide +kernel
theorem dX0_settle_79 : decode cX0_settle 79 = .ok (.goto 4, 3) := by decide +kernel
theorem dX0_settle_82 : decode cX0_settle 82 = .ok (.iconst 0, 1) := by decide +kernel
theorem dX0_settle_83 : decode cX0_settle 83 = .ok (.putfield 69, 3) := by decide +kernel
theorem dX0_settle_86 : decode cX0_settle 86 = .ok (.aload_n 0, 1) := by decide +kernel
theorem dX0_settle_87 : decode cX0_settle 87 = .ok (.getfield 12, 3) := by decide +kernel
theorem dX0_settle_90 : decode cX0_settle 90 = .ok (.getfield 69, 3) := by decide +kernel
theorem dX0_settle_93 : decode cX0_settle 93 = .ok (.ifCond .eq 11, 3) := by decide +kernel
theorem dX0_settle_96 : decode cX0_settle 96 = .ok (.aload_n 0, 1) := by decide +kernel
theorem dX0_settle_97 : decode cX0_settle 97 = .ok (.getfield 12, 3) := by decide +kernel
theorem dX0_settle_100 : decode cX0_settle 100 = .ok (.iload_n 1, 1) := by decide +kernel
theorem dX0_settle_101 : decode cX0_settle 101 = .ok (.putfield 62, 3) := by decide +kernel
theorem dX0_settle_104 : decode cX0_settle 104 = .ok (.return_, 1) := by decide +kernel
theorem dX0_changesTo_0 : decode cX0_changesTo 0 = .ok (.iconst 0, 1) := by decide +kernel
theorem dX0_changesTo_1 : decode cX0_changesTo 1 = .ok (.istore_n 2, 1) := by decide +kernel
theorem dX0_changesTo_2 : decode cX0_changesTo 2 = .ok (.iconst 0, 1) := by decide +kernel
theorem dX0_changesTo_3 : decode cX0_changesTo 3 = .ok (.istore_n 3, 1) := by decide +kernel
theorem dX0_changesTo_4 : decode cX0_changesTo 4 = .ok (.iload_n 3, 1) := by decide +kernel
theorem dX0_changesTo_5 : decode cX0_changesTo 5 = .ok (.aload_n 0, 1) := by decide +kernel
theorem dX0_changesTo_6 : decode cX0_changesTo 6 = .ok (.getfield 40, 3) := by decide +kernel
theorem dX0_changesTo_9 : decode cX0_changesTo 9 = .ok (.if_icmp .ge 31, 3) := by decide +kernel
theorem dX0_changesTo_12 : decode cX0_changesTo 12 = .ok (.iload_n 1, 1) := by decide +kernel
theorem dX0_changesTo_13 : decode cX0_changesTo 13 = .ok (.iload_n 3, 1) := by decide +kernel
theorem dX0_changesTo_14 : decode cX0_changesTo 14 = .ok (.invokestatic 81, 3) := by decide +kernel
theorem dX0_changesTo_17 : decode cX0_changesTo 17 = .ok (.aload_n 0, 1) := by decide +kernel
theorem dX0_changesTo_18 : decode cX0_changesTo 18 = .ok (.getfield 12, 3) := by decide +kernel
theorem dX0_changesTo_21 : decode cX0_changesTo 21 = .ok (.getfield 62, 3) := by decide +kernel
theorem dX0_changesTo_24 : decode cX0_changesTo 24 = .ok (.iload_n 3, 1) := by decide +kernel
theorem dX0_changesTo_25 : decode cX0_changesTo 25 = .ok (.invokestatic 81, 3) := by decide +kernel
theorem dX0_changesTo_28 : decode cX0_changesTo 28 = .ok (.if_icmp .eq 6, 3) := by decide +kernel
theorem dX0_changesTo_31 : decode cX0_changesTo 31 = .ok (.iinc 2 1, 3) := by decide +kernel
theorem dX0_changesTo_34 : decode cX0_changesTo 34 = .ok (.iinc 3 1, 3) := by decide +kernel
theorem dX0_changesTo_37 : decode cX0_changesTo 37 = .ok (.goto (-33), 3) := by decide +kernel
theorem dX0_changesTo_40 : decode cX0_changesTo 40 = .ok (.iload_n 2, 1) := by decide +kernel
theorem dX0_changesTo_41 : decode cX0_changesTo 41 = .ok (.ireturn, 1) := by decide +kernel
theorem dX0_isDetermined_0 : decode cX0_isDetermined 0 = .ok (.aload_n 0, 1) := by decide +kernel
theorem dX0_isDetermined_1 : decode cX0_isDetermined 1 = .ok (.getfield 25, 3) := by decide +kernel
theorem dX0_isDetermined_4 : decode cX0_isDetermined 4 = .ok (.getfield 85, 3) := by decide +kernel
theorem dX0_isDetermined_7 : decode cX0_isDetermined 7 = .ok (.aload_n 0, 1) := by decide +kernel
theorem dX0_isDetermined_8 : decode cX0_isDetermined 8 = .ok (.iload_n 1, 1) := by decide +kernel
theorem dX0_isDetermined_9 : decode cX0_isDetermined 9 = .ok (.invokevirtual 88, 3) := by decide +kernel
theorem dX0_isDetermined_12 : decode cX0_isDetermined 12 = .ok (.laload, 1) := by decide +kernel
theorem dX0_isDetermined_13 : decode cX0_isDetermined 13 = .ok (.lconst 0, 1) := by decide +kernel
theorem dX0_isDetermined_14 : decode cX0_isDetermined 14 = .ok (.lcmp, 1) := by decide +kernel
theorem dX0_isDetermined_15 : decode cX0_isDetermined 15 = .ok (.ifCond .eq 7, 3) := by decide +kernel
theorem dX0_isDetermined_18 : decode cX0_isDetermined 18 = .ok (.iconst 1, 1) := by decide +kernel
theorem dX0_isDetermined_19 : decode cX0_isDetermined 19 = .ok (.goto 4, 3) := by decide +kernel
theorem dX0_isDetermined_22 : decode cX0_isDetermined 22 = .ok (.iconst 0, 1) := by decide +kernel
theorem dX0_isDetermined_23 : decode cX0_isDetermined 23 = .ok (.ireturn, 1) := by decide +kernel
theorem dX0_saturatedIn_0 : decode cX0_saturatedIn 0 = .ok (.iconst 0, 1) := by decide +kernel
theorem dX0_saturatedIn_1 : decode cX0_saturatedIn 1 = .ok (.istore_n 2, 1) := by decide +kernel
theorem dX0_saturatedIn_2 : decode cX0_saturatedIn 2 = .ok (.iconst 0, 1) := by decide +kernel
theorem dX0_saturatedIn_3 : decode cX0_saturatedIn 3 = .ok (.istore_n 3, 1) := by decide +kernel
theorem dX0_saturatedIn_4 : decode cX0_saturatedIn 4 = .ok (.iload_n 3, 1) := by decide +kernel
theorem dX0_saturatedIn_5 : decode cX0_saturatedIn 5 = .ok (.aload_n 0, 1) := by decide +kernel
theorem dX0_saturatedIn_6 : decode cX0_saturatedIn 6 = .ok (.getfield 40, 3) := by decide +kernel
theorem dX0_saturatedIn_9 : decode cX0_saturatedIn 9 = .ok (.if_icmp .ge 23, 3) := by decide +kernel
theorem dX0_saturatedIn_12 : decode cX0_saturatedIn 12 = .ok (.iload_n 1, 1) := by decide +kernel
theorem dX0_saturatedIn_13 : decode cX0_saturatedIn 13 = .ok (.iload_n 3, 1) := by decide +kernel
theorem dX0_saturatedIn_14 : decode cX0_saturatedIn 14 = .ok (.invokestatic 81, 3) := by decide +kernel
theorem dX0_saturatedIn_17 : decode cX0_saturatedIn 17 = .ok (.ifCond .eq 9, 3) := by decide +kernel
theorem dX0_saturatedIn_20 : decode cX0_saturatedIn 20 = .ok (.iload_n 2, 1) := by decide +kernel
theorem dX0_saturatedIn_21 : decode cX0_saturatedIn 21 = .ok (.iconst 1, 1) := by decide +kernel
theorem dX0_saturatedIn_22 : decode cX0_saturatedIn 22 = .ok (.iload_n 3, 1) := by decide +kernel
theorem dX0_saturatedIn_23 : decode cX0_saturatedIn 23 = .ok (.ishl, 1) := by decide +kernel
theorem dX0_saturatedIn_24 : decode cX0_saturatedIn 24 = .ok (.ior, 1) := by decide +kernel
theorem dX0_saturatedIn_25 : decode cX0_saturatedIn 25 = .ok (.istore_n 2, 1) := by decide +kernel
theorem dX0_saturatedIn_26 : decode cX0_saturatedIn 26 = .ok (.iinc 3 1, 3) := by decide +kernel
theorem dX0_saturatedIn_29 : decode cX0_saturatedIn 29 = .ok (.goto (-25), 3) := by decide +kernel
theorem dX0_saturatedIn_32 : decode cX0_saturatedIn 32 = .ok (.iload_n 2, 1) := by decide +kernel
theorem dX0_saturatedIn_33 : decode cX0_saturatedIn 33 = .ok (.ireturn, 1) := by decide +kernel
theorem dX0_choose_0 : decode cX0_choose 0 = .ok (.aload_n 0, 1) := by decide +kernel
theorem dX0_choose_1 : decode cX0_choose 1 = .ok (.aload_n 0, 1) := by decide +kernel
theorem dX0_choose_2 : decode cX0_choose 2 = .ok (.iload_n 1, 1) := by decide +kernel
theorem dX0_choose_3 : decode cX0_choose 3 = .ok (.invokevirtual 88, 3) := by decide +kernel
theorem dX0_choose_6 : decode cX0_choose 6 = .ok (.putfield 91, 3) := by decide +kernel
theorem dX0_choose_9 : decode cX0_choose 9 = .ok (.aload_n 0, 1) := by decide +kernel
theorem dX0_choose_10 : decode cX0_choose 10 = .ok (.getfield 29, 3) := by decide +kernel
theorem dX0_choose_13 : decode cX0_choose 13 = .ok (.lconst 0, 1) := by decide +kernel
theorem dX0_choose_14 : decode cX0_choose 14 = .ok (.invokestatic 94, 3) := by decide +kernel
theorem dX0_choose_17 : decode cX0_choose 17 = .ok (.aload_n 0, 1) := by decide +kernel
theorem dX0_choose_18 : decode cX0_choose 18 = .ok (.getfield 12, 3) := by decide +kernel
theorem dX0_choose_21 : decode cX0_choose 21 = .ok (.getfield 44, 3) := by decide +kernel
theorem dX0_choose_24 : decode cX0_choose 24 = .ok (.astore_n 2, 1) := by decide +kernel
theorem dX0_choose_25 : decode cX0_choose 25 = .ok (.iconst 0, 1) := by decide +kernel
theorem dX0_choose_26 : decode cX0_choose 26 = .ok (.istore_n 3, 1) := by decide +kernel
theorem dX0_choose_27 : decode cX0_choose 27 = .ok (.iload_n 3, 1) := by decide +kernel
theorem dX0_choose_28 : decode cX0_choose 28 = .ok (.aload_n 2, 1) := by decide +kernel
theorem dX0_choose_29 : decode cX0_choose 29 = .ok (.getfield 48, 3) := by decide +kernel
theorem dX0_choose_32 : decode cX0_choose 32 = .ok (.if_icmp .ge 37, 3) := by decide +kernel
theorem dX0_choose_35 : decode cX0_choose 35 = .ok (.aload_n 2, 1) := by decide +kernel
theorem dX0_choose_36 : decode cX0_choose 36 = .ok (.getfield 53, 3) := by decide +kernel
theorem dX0_choose_39 : decode cX0_choose 39 = .ok (.iload_n 3, 1) := by decide +kernel
theorem dX0_choose_40 : decode cX0_choose 40 = .ok (.iaload, 1) := by decide +kernel
theorem dX0_choose_41 : decode cX0_choose 41 = .ok (.iconst 1, 1) := by decide +kernel
theorem dX0_choose_42 : decode cX0_choose 42 = .ok (.if_icmp .ne 21, 3) := by decide +kernel
theorem dX0_choose_45 : decode cX0_choose 45 = .ok (.aload_n 0, 1) := by decide +kernel
theorem dX0_choose_46 : decode cX0_choose 46 = .ok (.getfield 29, 3) := by decide +kernel
theorem dX0_choose_49 : decode cX0_choose 49 = .ok (.aload_n 2, 1) := by decide +kernel
theorem dX0_choose_50 : decode cX0_choose 50 = .ok (.getfield 100, 3) := by decide +kernel
theorem dX0_choose_53 : decode cX0_choose 53 = .ok (.iload_n 3, 1) := by decide +kernel
theorem dX0_choose_54 : decode cX0_choose 54 = .ok (.iaload, 1) := by decide +kernel
theorem dX0_choose_55 : decode cX0_choose 55 = .ok (.aload_n 2, 1) := by decide +kernel
theorem dX0_choose_56 : decode cX0_choose 56 = .ok (.getfield 103, 3) := by decide +kernel
theorem dX0_choose_59 : decode cX0_choose 59 = .ok (.iload_n 3, 1) := by decide +kernel
theorem dX0_choose_60 : decode cX0_choose 60 = .ok (.iaload, 1) := by decide +kernel
theorem dX0_choose_61 : decode cX0_choose 61 = .ok (.i2l, 1) := by decide +kernel
theorem dX0_choose_62 : decode cX0_choose 62 = .ok (.lastore, 1) := by decide +kernel
theorem dX0_choose_63 : decode cX0_choose 63 = .ok (.iinc 3 1, 3) := by decide +kernel
theorem dX0_choose_66 : decode cX0_choose 66 = .ok (.goto (-39), 3) := by decide +kernel
theorem dX0_choose_69 : decode cX0_choose 69 = .ok (.iconst 0, 1) := by decide +kernel
theorem dX0_choose_70 : decode cX0_choose 70 = .ok (.istore_n 3, 1) := by decide +kernel
theorem dX0_choose_71 : decode cX0_choose 71 = .ok (.iload_n 3, 1) := by decide +kernel
theorem dX0_choose_72 : decode cX0_choose 72 = .ok (.aload_n 0, 1) := by decide +kernel
theorem dX0_choose_73 : decode cX0_choose 73 = .ok (.getfield 40, 3) := by decide +kernel
theorem dX0_choose_76 : decode cX0_choose 76 = .ok (.if_icmp .ge 75, 3) := by decide +kernel
theorem dX0_choose_79 : decode cX0_choose 79 = .ok (.aload_n 2, 1) := by decide +kernel
theorem dX0_choose_80 : decode cX0_choose 80 = .ok (.getfield 103, 3) := by decide +kernel
theorem dX0_choose_83 : decode cX0_choose 83 = .ok (.aload_n 0, 1) := by decide +kernel
theorem dX0_choose_84 : decode cX0_choose 84 = .ok (.getfield 18, 3) := by decide +kernel
theorem dX0_choose_87 : decode cX0_choose 87 = .ok (.iload_n 3, 1) := by decide +kernel
theorem dX0_choose_88 : decode cX0_choose 88 = .ok (.iaload, 1) := by decide +kernel
theorem dX0_choose_89 : decode cX0_choose 89 = .ok (.iaload, 1) := by decide +kernel
theorem dX0_choose_90 : decode cX0_choose 90 = .ok (.istore 4, 2) := by decide +kernel
theorem dX0_choose_92 : decode cX0_choose 92 = .ok (.iload_n 1, 1) := by decide +kernel
theorem dX0_choose_93 : decode cX0_choose 93 = .ok (.iload_n 3, 1) := by decide +kernel
theorem dX0_choose_94 : decode cX0_choose 94 = .ok (.invokestatic 81, 3) := by decide +kernel
theorem dX0_choose_97 : decode cX0_choose 97 = .ok (.istore 5, 2) := by decide +kernel
theorem dX0_choose_99 : decode cX0_choose 99 = .ok (.iload 5, 2) := by decide +kernel
theorem dX0_choose_101 : decode cX0_choose 101 = .ok (.iconst 1, 1) := by decide +kernel
theorem dX0_choose_102 : decode cX0_choose 102 = .ok (.if_icmp .ne 21, 3) := by decide +kernel
theorem dX0_choose_105 : decode cX0_choose 105 = .ok (.aload_n 0, 1) := by decide +kernel
theorem dX0_choose_106 : decode cX0_choose 106 = .ok (.getfield 29, 3) := by decide +kernel
theorem dX0_choose_109 : decode cX0_choose 109 = .ok (.iload 4, 2) := by decide +kernel
theorem dX0_choose_111 : decode cX0_choose 111 = .ok (.aload_n 0, 1) := by decide +kernel
theorem dX0_choose_112 : decode cX0_choose 112 = .ok (.getfield 12, 3) := by decide +kernel
theorem dX0_choose_115 : decode cX0_choose 115 = .ok (.getfield 106, 3) := by decide +kernel
theorem dX0_choose_118 : decode cX0_choose 118 = .ok (.i2l, 1) := by decide +kernel
theorem dX0_choose_119 : decode cX0_choose 119 = .ok (.lastore, 1) := by decide +kernel
theorem dX0_choose_120 : decode cX0_choose 120 = .ok (.goto 25, 3) := by decide +kernel
theorem dX0_choose_123 : decode cX0_choose 123 = .ok (.iload 5, 2) := by decide +kernel
theorem dX0_choose_125 : decode cX0_choose 125 = .ok (.iconst 2, 1) := by decide +kernel
theorem dX0_choose_126 : decode cX0_choose 126 = .ok (.if_icmp .ne 19, 3) := by decide +kernel
theorem dX0_choose_129 : decode cX0_choose 129 = .ok (.aload_n 0, 1) := by decide +kernel
theorem dX0_choose_130 : decode cX0_choose 130 = .ok (.getfield 29, 3) := by decide +kernel
theorem dX0_choose_133 : decode cX0_choose 133 = .ok (.iload 4, 2) := by decide +kernel
theorem dX0_choose_135 : decode cX0_choose 135 = .ok (.aload_n 0, 1) := by decide +kernel
theorem dX0_choose_136 : decode cX0_choose 136 = .ok (.getfield 12, 3) := by decide +kernel
theorem dX0_choose_139 : decode cX0_choose 139 = .ok (.getfield 106, 3) := by decide +kernel
theorem dX0_choose_142 : decode cX0_choose 142 = .ok (.ineg, 1) := by decide +kernel
theorem dX0_choose_143 : decode cX0_choose 143 = .ok (.i2l, 1) := by decide +kernel
theorem dX0_choose_144 : decode cX0_choose 144 = .ok (.lastore, 1) := by decide +kernel
theorem dX0_choose_145 : decode cX0_choose 145 = .ok (.iinc 3 1, 3) := by decide +kernel
theorem dX0_choose_148 : decode cX0_choose 148 = .ok (.goto (-77), 3) := by decide +kernel
theorem dX0_choose_151 : decode cX0_choose 151 = .ok (.return_, 1) := by decide +kernel
theorem dX0_denominator_0 : decode cX0_denominator 0 = .ok (.aload_n 0, 1) := by decide +kernel
theorem dX0_denominator_1 : decode cX0_denominator 1 = .ok (.getfield 25, 3) := by decide +kernel
theorem dX0_denominator_4 : decode cX0_denominator 4 = .ok (.getfield 85, 3) := by decide +kernel
theorem dX0_denominator_7 : decode cX0_denominator 7 = .ok (.aload_n 0, 1) := by decide +kernel
theorem dX0_denominator_8 : decode cX0_denominator 8 = .ok (.getfield 91, 3) := by decide +kernel
theorem dX0_denominator_11 : decode cX0_denominator 11 = .ok (.laload, 1) := by decide +kernel
theorem dX0_denominator_12 : decode cX0_denominator 12 = .ok (.lreturn, 1) := by decide +kernel
theorem dX0_numerator_0 : decode cX0_numerator 0 = .ok (.aload_n 0, 1) := by decide +kernel
theorem dX0_numerator_1 : decode cX0_numerator 1 = .ok (.getfield 25, 3) := by decide +kernel
theorem dX0_numerator_4 : decode cX0_numerator 4 = .ok (.getfield 109, 3) := by decide +kernel
theorem dX0_numerator_7 : decode cX0_numerator 7 = .ok (.aload_n 0, 1) := by decide +kernel
theorem dX0_numerator_8 : decode cX0_numerator 8 = .ok (.getfield 91, 3) := by decide +kernel
theorem dX0_numerator_11 : decode cX0_numerator 11 = .ok (.aaload, 1) := by decide +kernel
theorem dX0_numerator_12 : decode cX0_numerator 12 = .ok (.astore_n 2, 1) := by decide +kernel
theorem dX0_numerator_13 : decode cX0_numerator 13 = .ok (.lconst 0, 1) := by decide +kernel
theorem dX0_numerator_14 : decode cX0_numerator 14 = .ok (.lstore_n 3, 1) := by decide +kernel
theorem dX0_numerator_15 : decode cX0_numerator 15 = .ok (.iconst 0, 1) := by decide +kernel
theorem dX0_numerator_16 : decode cX0_numerator 16 = .ok (.istore 5, 2) := by decide +kernel
theorem dX0_numerator_18 : decode cX0_numerator 18 = .ok (.iload 5, 2) := by decide +kernel
theorem dX0_numerator_20 : decode cX0_numerator 20 = .ok (.bipush 7, 2) := by decide +kernel
theorem dX0_numerator_22 : decode cX0_numerator 22 = .ok (.if_icmp .ge 29, 3) := by decide +kernel
theorem dX0_numerator_25 : decode cX0_numerator 25 = .ok (.lload_n 3, 1) := by decide +kernel
theorem dX0_numerator_26 : decode cX0_numerator 26 = .ok (.aload_n 2, 1) := by decide +kernel
theorem dX0_numerator_27 : decode cX0_numerator 27 = .ok (.bipush 7, 2) := by decide +kernel
theorem dX0_numerator_29 : decode cX0_numerator 29 = .ok (.iload_n 1, 1) := by decide +kernel
theorem dX0_numerator_30 : decode cX0_numerator 30 = .ok (.imul, 1) := by decide +kernel
theorem dX0_numerator_31 : decode cX0_numerator 31 = .ok (.iload 5, 2) := by decide +kernel
theorem dX0_numerator_33 : decode cX0_numerator 33 = .ok (.iadd, 1) := by decide +kernel
theorem dX0_numerator_34 : decode cX0_numerator 34 = .ok (.laload, 1) := by decide +kernel
theorem dX0_numerator_35 : decode cX0_numerator 35 = .ok (.aload_n 0, 1) := by decide +kernel
theorem dX0_numerator_36 : decode cX0_numerator 36 = .ok (.getfield 29, 3) := by decide +kernel
theorem dX0_numerator_39 : decode cX0_numerator 39 = .ok (.iload 5, 2) := by decide +kernel
theorem dX0_numerator_41 : decode cX0_numerator 41 = .ok (.laload, 1) := by decide +kernel
theorem dX0_numerator_42 : decode cX0_numerator 42 = .ok (.lmul, 1) := by decide +kernel
theorem dX0_numerator_43 : decode cX0_numerator 43 = .ok (.ladd, 1) := by decide +kernel
theorem dX0_numerator_44 : decode cX0_numerator 44 = .ok (.lstore_n 3, 1) := by decide +kernel
theorem dX0_numerator_45 : decode cX0_numerator 45 = .ok (.iinc 5 1, 3) := by decide +kernel
theorem dX0_numerator_48 : decode cX0_numerator 48 = .ok (.goto (-30), 3) := by decide +kernel
theorem dX0_numerator_51 : decode cX0_numerator 51 = .ok (.lload_n 3, 1) := by decide +kernel
theorem dX0_numerator_52 : decode cX0_numerator 52 = .ok (.lreturn, 1) := by decide +kernel
theorem dX0_nodeVoltage_0 : decode cX0_nodeVoltage 0 = .ok (.iload_n 2, 1) := by decide +kernel
theorem dX0_nodeVoltage_1 : decode cX0_nodeVoltage 1 = .ok (.ifCond .eq 20, 3) := by decide +kernel
theorem dX0_nodeVoltage_4 : decode cX0_nodeVoltage 4 = .ok (.aload_n 0, 1) := by decide +kernel
theorem dX0_nodeVoltage_5 : decode cX0_nodeVoltage 5 = .ok (.getfield 12, 3) := by decide +kernel
theorem dX0_nodeVoltage_8 : decode cX0_nodeVoltage 8 = .ok (.getfield 44, 3) := by decide +kernel
theorem dX0_nodeVoltage_11 : decode cX0_nodeVoltage 11 = .ok (.invokevirtual 113, 3) := by decide +kernel
theorem dX0_nodeVoltage_14 : decode cX0_nodeVoltage 14 = .ok (.iload_n 2, 1) := by decide +kernel
theorem dX0_nodeVoltage_15 : decode cX0_nodeVoltage 15 = .ok (.invokestatic 116, 3) := by decide +kernel
theorem dX0_nodeVoltage_18 : decode cX0_nodeVoltage 18 = .ok (.ifCond .eq 7, 3) := by decide +kernel
theorem dX0_nodeVoltage_21 : decode cX0_nodeVoltage 21 = .ok (.iconst 1, 1) := by decide +kernel
theorem dX0_nodeVoltage_22 : decode cX0_nodeVoltage 22 = .ok (.goto 4, 3) := by decide +kernel
theorem dX0_nodeVoltage_25 : decode cX0_nodeVoltage 25 = .ok (.iconst 0, 1) := by decide +kernel
theorem dX0_nodeVoltage_26 : decode cX0_nodeVoltage 26 = .ok (.istore 4, 2) := by decide +kernel
theorem dX0_nodeVoltage_28 : decode cX0_nodeVoltage 28 = .ok (.iload 4, 2) := by decide +kernel
theorem dX0_nodeVoltage_30 : decode cX0_nodeVoltage 30 = .ok (.ifCond .eq 11, 3) := by decide +kernel
theorem dX0_nodeVoltage_33 : decode cX0_nodeVoltage 33 = .ok (.aload_n 0, 1) := by decide +kernel
theorem dX0_nodeVoltage_34 : decode cX0_nodeVoltage 34 = .ok (.iload_n 1, 1) := by decide +kernel
theorem dX0_nodeVoltage_35 : decode cX0_nodeVoltage 35 = .ok (.invokevirtual 120, 3) := by decide +kernel
theorem dX0_nodeVoltage_38 : decode cX0_nodeVoltage 38 = .ok (.ifCond .ne 5, 3) := by decide +kernel
theorem dX0_nodeVoltage_41 : decode cX0_nodeVoltage 41 = .ok (.lconst 0, 1) := by decide +kernel
theorem dX0_nodeVoltage_42 : decode cX0_nodeVoltage 42 = .ok (.lreturn, 1) := by decide +kernel
theorem dX0_nodeVoltage_43 : decode cX0_nodeVoltage 43 = .ok (.aload_n 0, 1) := by decide +kernel
theorem dX0_nodeVoltage_44 : decode cX0_nodeVoltage 44 = .ok (.iload_n 1, 1) := by decide +kernel
theorem dX0_nodeVoltage_45 : decode cX0_nodeVoltage 45 = .ok (.invokevirtual 123, 3) := by decide +kernel
theorem dX0_nodeVoltage_48 : decode cX0_nodeVoltage 48 = .ok (.aload_n 0, 1) := by decide +kernel
theorem dX0_nodeVoltage_49 : decode cX0_nodeVoltage 49 = .ok (.iload_n 2, 1) := by decide +kernel
theorem dX0_nodeVoltage_50 : decode cX0_nodeVoltage 50 = .ok (.invokevirtual 127, 3) := by decide +kernel
theorem dX0_nodeVoltage_53 : decode cX0_nodeVoltage 53 = .ok (.aload_n 0, 1) := by decide +kernel
theorem dX0_nodeVoltage_54 : decode cX0_nodeVoltage 54 = .ok (.invokevirtual 130, 3) := by decide +kernel
theorem dX0_nodeVoltage_57 : decode cX0_nodeVoltage 57 = .ok (.iload_n 3, 1) := by decide +kernel
theorem dX0_nodeVoltage_58 : decode cX0_nodeVoltage 58 = .ok (.invokestatic 133, 3) := by decide +kernel
theorem dX0_nodeVoltage_61 : decode cX0_nodeVoltage 61 = .ok (.lreturn, 1) := by decide +kernel
theorem dX0_inputSign_0 : decode cX0_inputSign 0 = .ok (.aload_n 0, 1) := by decide +kernel
theorem dX0_inputSign_1 : decode cX0_inputSign 1 = .ok (.aload_n 0, 1) := by decide +kernel
theorem dX0_inputSign_2 : decode cX0_inputSign 2 = .ok (.getfield 12, 3) := by decide +kernel
theorem dX0_inputSign_5 : decode cX0_inputSign 5 = .ok (.getfield 62, 3) := by decide +kernel
theorem dX0_inputSign_8 : decode cX0_inputSign 8 = .ok (.invokevirtual 123, 3) := by decide +kernel
theorem dX0_inputSign_11 : decode cX0_inputSign 11 = .ok (.aload_n 0, 1) := by decide +kernel
theorem dX0_inputSign_12 : decode cX0_inputSign 12 = .ok (.aload_n 0, 1) := by decide +kernel
theorem dX0_inputSign_13 : decode cX0_inputSign 13 = .ok (.getfield 18, 3) := by decide +kernel
theorem dX0_inputSign_16 : decode cX0_inputSign 16 = .ok (.iload_n 1, 1) := by decide +kernel
theorem dX0_inputSign_17 : decode cX0_inputSign 17 = .ok (.iaload, 1) := by decide +kernel
theorem dX0_inputSign_18 : decode cX0_inputSign 18 = .ok (.invokevirtual 137, 3) := by decide +kernel
theorem dX0_inputSign_21 : decode cX0_inputSign 21 = .ok (.ireturn, 1) := by decide +kernel
theorem dX0_signOfInput_0 : decode cX0_signOfInput 0 = .ok (.aload_n 0, 1) := by decide +kernel
theorem dX0_signOfInput_1 : decode cX0_signOfInput 1 = .ok (.aload_n 0, 1) := by decide +kernel
theorem dX0_signOfInput_2 : decode cX0_signOfInput 2 = .ok (.getfield 12, 3) := by decide +kernel
theorem dX0_signOfInput_5 : decode cX0_signOfInput 5 = .ok (.getfield 44, 3) := by decide +kernel
theorem dX0_signOfInput_8 : decode cX0_signOfInput 8 = .ok (.getfield 100, 3) := by decide +kernel
theorem dX0_signOfInput_11 : decode cX0_signOfInput 11 = .ok (.iload_n 1, 1) := by decide +kernel
theorem dX0_signOfInput_12 : decode cX0_signOfInput 12 = .ok (.iaload, 1) := by decide +kernel
theorem dX0_signOfInput_13 : decode cX0_signOfInput 13 = .ok (.invokevirtual 127, 3) := by decide +kernel
theorem dX0_signOfInput_16 : decode cX0_signOfInput 16 = .ok (.aload_n 0, 1) := by decide +kernel
theorem dX0_signOfInput_17 : decode cX0_signOfInput 17 = .ok (.aload_n 0, 1) := by decide +kernel
theorem dX0_signOfInput_18 : decode cX0_signOfInput 18 = .ok (.getfield 12, 3) := by decide +kernel
theorem dX0_signOfInput_21 : decode cX0_signOfInput 21 = .ok (.getfield 44, 3) := by decide +kernel
theorem dX0_signOfInput_24 : decode cX0_signOfInput 24 = .ok (.getfield 140, 3) := by decide +kernel
theorem dX0_signOfInput_27 : decode cX0_signOfInput 27 = .ok (.iload_n 1, 1) := by decide +kernel
theorem dX0_signOfInput_28 : decode cX0_signOfInput 28 = .ok (.iaload, 1) := by decide +kernel
theorem dX0_signOfInput_29 : decode cX0_signOfInput 29 = .ok (.invokevirtual 127, 3) := by decide +kernel
theorem dX0_signOfInput_32 : decode cX0_signOfInput 32 = .ok (.invokestatic 143, 3) := by decide +kernel
theorem dX0_signOfInput_35 : decode cX0_signOfInput 35 = .ok (.ireturn, 1) := by decide +kernel
theorem dX0_holds_0 : decode cX0_holds 0 = .ok (.aload_n 0, 1) := by decide +kernel
theorem dX0_holds_1 : decode cX0_holds 1 = .ok (.iload_n 1, 1) := by decide +kernel
theorem dX0_holds_2 : decode cX0_holds 2 = .ok (.invokevirtual 149, 3) := by decide +kernel
theorem dX0_holds_5 : decode cX0_holds 5 = .ok (.aload_n 0, 1) := by decide +kernel
theorem dX0_holds_6 : decode cX0_holds 6 = .ok (.getfield 152, 3) := by decide +kernel
theorem dX0_holds_9 : decode cX0_holds 9 = .ok (.ifCond .ne 7, 3) := by decide +kernel
theorem dX0_holds_12 : decode cX0_holds 12 = .ok (.iconst 1, 1) := by decide +kernel
theorem dX0_holds_13 : decode cX0_holds 13 = .ok (.goto 4, 3) := by decide +kernel
theorem dX0_holds_16 : decode cX0_holds 16 = .ok (.iconst 0, 1) := by decide +kernel
theorem dX0_holds_17 : decode cX0_holds 17 = .ok (.ireturn, 1) := by decide +kernel
theorem dX0_judge_0 : decode cX0_judge 0 = .ok (.aload_n 0, 1) := by decide +kernel
theorem dX0_judge_1 : decode cX0_judge 1 = .ok (.iconst (-1), 1) := by decide +kernel
theorem dX0_judge_2 : decode cX0_judge 2 = .ok (.putfield 155, 3) := by decide +kernel
theorem dX0_judge_5 : decode cX0_judge 5 = .ok (.aload_n 0, 1) := by decide +kernel
theorem dX0_judge_6 : decode cX0_judge 6 = .ok (.iload_n 1, 1) := by decide +kernel
theorem dX0_judge_7 : decode cX0_judge 7 = .ok (.invokevirtual 120, 3) := by decide +kernel
theorem dX0_judge_10 : decode cX0_judge 10 = .ok (.ifCond .ne 9, 3) := by decide +kernel
theorem dX0_judge_13 : decode cX0_judge 13 = .ok (.aload_n 0, 1) := by decide +kernel
theorem dX0_judge_14 : decode cX0_judge 14 = .ok (.iconst 1, 1) := by decide +kernel
theorem dX0_judge_15 : decode cX0_judge 15 = .ok (.putfield 152, 3) := by decide +kernel
theorem dX0_judge_18 : decode cX0_judge 18 = .ok (.return_, 1) := by decide +kernel
theorem dX0_judge_19 : decode cX0_judge 19 = .ok (.aload_n 0, 1) := by decide +kernel
theorem dX0_judge_20 : decode cX0_judge 20 = .ok (.iload_n 1, 1) := by decide +kernel
theorem dX0_judge_21 : decode cX0_judge 21 = .ok (.invokevirtual 123, 3) := by decide +kernel
theorem dX0_judge_24 : decode cX0_judge 24 = .ok (.iconst 0, 1) := by decide +kernel
theorem dX0_judge_25 : decode cX0_judge 25 = .ok (.istore_n 2, 1) := by decide +kernel
theorem dX0_judge_26 : decode cX0_judge 26 = .ok (.iload_n 2, 1) := by decide +kernel
theorem dX0_judge_27 : decode cX0_judge 27 = .ok (.aload_n 0, 1) := by decide +kernel
theorem dX0_judge_28 : decode cX0_judge 28 = .ok (.getfield 40, 3) := by decide +kernel
theorem dX0_judge_31 : decode cX0_judge 31 = .ok (.if_icmp .ge 36, 3) := by decide +kernel
theorem dX0_judge_34 : decode cX0_judge 34 = .ok (.aload_n 0, 1) := by decide +kernel
theorem dX0_judge_35 : decode cX0_judge 35 = .ok (.aload_n 0, 1) := by decide +kernel
theorem dX0_judge_36 : decode cX0_judge 36 = .ok (.iload_n 2, 1) := by decide +kernel
theorem dX0_judge_37 : decode cX0_judge 37 = .ok (.iload_n 1, 1) := by decide +kernel
theorem dX0_judge_38 : decode cX0_judge 38 = .ok (.iload_n 2, 1) := by decide +kernel
theorem dX0_judge_39 : decode cX0_judge 39 = .ok (.invokestatic 81, 3) := by decide +kernel
theorem dX0_judge_42 : decode cX0_judge 42 = .ok (.invokevirtual 158, 3) := by decide +kernel
theorem dX0_judge_45 : decode cX0_judge 45 = .ok (.putfield 152, 3) := by decide +kernel
theorem dX0_judge_48 : decode cX0_judge 48 = .ok (.aload_n 0, 1) := by decide +kernel
theorem dX0_judge_49 : decode cX0_judge 49 = .ok (.getfield 152, 3) := by decide +kernel
theorem dX0_judge_52 : decode cX0_judge 52 = .ok (.ifCond .eq 9, 3) := by decide +kernel
theorem dX0_judge_55 : decode cX0_judge 55 = .ok (.aload_n 0, 1) := by decide +kernel
theorem dX0_judge_56 : decode cX0_judge 56 = .ok (.iload_n 2, 1) := by decide +kernel
theorem dX0_judge_57 : decode cX0_judge 57 = .ok (.putfield 155, 3) := by decide +kernel
theorem dX0_judge_60 : decode cX0_judge 60 = .ok (.return_, 1) := by decide +kernel
theorem dX0_judge_61 : decode cX0_judge 61 = .ok (.iinc 2 1, 3) := by decide +kernel
theorem dX0_judge_64 : decode cX0_judge 64 = .ok (.goto (-38), 3) := by decide +kernel
theorem dX0_judge_67 : decode cX0_judge 67 = .ok (.aload_n 0, 1) := by decide +kernel
theorem dX0_judge_68 : decode cX0_judge 68 = .ok (.iconst 0, 1) := by decide +kernel
theorem dX0_judge_69 : decode cX0_judge 69 = .ok (.putfield 152, 3) := by decide +kernel
theorem dX0_judge_72 : decode cX0_judge 72 = .ok (.return_, 1) := by decide +kernel
theorem dX0_faultOf_0 : decode cX0_faultOf 0 = .ok (.aload_n 0, 1) := by decide +kernel
theorem dX0_faultOf_1 : decode cX0_faultOf 1 = .ok (.getfield 18, 3) := by decide +kernel
theorem dX0_faultOf_4 : decode cX0_faultOf 4 = .ok (.iload_n 1, 1) := by decide +kernel
theorem dX0_faultOf_5 : decode cX0_faultOf 5 = .ok (.iaload, 1) := by decide +kernel
theorem dX0_faultOf_6 : decode cX0_faultOf 6 = .ok (.istore_n 3, 1) := by decide +kernel
theorem dX0_faultOf_7 : decode cX0_faultOf 7 = .ok (.iload_n 2, 1) := by decide +kernel
theorem dX0_faultOf_8 : decode cX0_faultOf 8 = .ok (.iconst 1, 1) := by decide +kernel
theorem dX0_faultOf_9 : decode cX0_faultOf 9 = .ok (.if_icmp .ne 17, 3) := by decide +kernel
theorem dX0_faultOf_12 : decode cX0_faultOf 12 = .ok (.aload_n 0, 1) := by decide +kernel
theorem dX0_faultOf_13 : decode cX0_faultOf 13 = .ok (.iload_n 3, 1) := by decide +kernel
theorem dX0_faultOf_14 : decode cX0_faultOf 14 = .ok (.invokevirtual 137, 3) := by decide +kernel
theorem dX0_faultOf_17 : decode cX0_faultOf 17 = .ok (.ifCond .le 7, 3) := by decide +kernel
theorem dX0_faultOf_20 : decode cX0_faultOf 20 = .ok (.iconst 0, 1) := by decide +kernel
theorem dX0_faultOf_21 : decode cX0_faultOf 21 = .ok (.goto 4, 3) := by decide +kernel
theorem dX0_faultOf_24 : decode cX0_faultOf 24 = .ok (.iconst 3, 1) := by decide +kernel
theorem dX0_faultOf_25 : decode cX0_faultOf 25 = .ok (.ireturn, 1) := by decide +kernel
theorem dX0_faultOf_26 : decode cX0_faultOf 26 = .ok (.iload_n 2, 1) := by decide +kernel
theorem dX0_faultOf_27 : decode cX0_faultOf 27 = .ok (.iconst 2, 1) := by decide +kernel
theorem dX0_faultOf_28 : decode cX0_faultOf 28 = .ok (.if_icmp .ne 17, 3) := by decide +kernel
theorem dX0_faultOf_31 : decode cX0_faultOf 31 = .ok (.aload_n 0, 1) := by decide +kernel
theorem dX0_faultOf_32 : decode cX0_faultOf 32 = .ok (.iload_n 3, 1) := by decide +kernel
theorem dX0_faultOf_33 : decode cX0_faultOf 33 = .ok (.invokevirtual 137, 3) := by decide +kernel
theorem dX0_faultOf_36 : decode cX0_faultOf 36 = .ok (.ifCond .ge 7, 3) := by decide +kernel
theorem dX0_faultOf_39 : decode cX0_faultOf 39 = .ok (.iconst 0, 1) := by decide +kernel
theorem dX0_faultOf_40 : decode cX0_faultOf 40 = .ok (.goto 4, 3) := by decide +kernel
theorem dX0_faultOf_43 : decode cX0_faultOf 43 = .ok (.iconst 4, 1) := by decide +kernel
theorem dX0_faultOf_44 : decode cX0_faultOf 44 = .ok (.ireturn, 1) := by decide +kernel
theorem dX0_faultOf_45 : decode cX0_faultOf 45 = .ok (.aload_n 0, 1) := by decide +kernel
theorem dX0_faultOf_46 : decode cX0_faultOf 46 = .ok (.getfield 12, 3) := by decide +kernel
theorem dX0_faultOf_49 : decode cX0_faultOf 49 = .ok (.getfield 106, 3) := by decide +kernel
theorem dX0_faultOf_52 : decode cX0_faultOf 52 = .ok (.i2l, 1) := by decide +kernel
theorem dX0_faultOf_53 : decode cX0_faultOf 53 = .ok (.aload_n 0, 1) := by decide +kernel
theorem dX0_faultOf_54 : decode cX0_faultOf 54 = .ok (.invokevirtual 130, 3) := by decide +kernel
theorem dX0_faultOf_57 : decode cX0_faultOf 57 = .ok (.lmul, 1) := by decide +kernel
theorem dX0_faultOf_58 : decode cX0_faultOf 58 = .ok (.lstore 4, 2) := by decide +kernel
theorem dX0_faultOf_60 : decode cX0_faultOf 60 = .ok (.aload_n 0, 1) := by decide +kernel
theorem dX0_faultOf_61 : decode cX0_faultOf 61 = .ok (.aload_n 0, 1) := by decide +kernel
theorem dX0_faultOf_62 : decode cX0_faultOf 62 = .ok (.getfield 12, 3) := by decide +kernel
theorem dX0_faultOf_65 : decode cX0_faultOf 65 = .ok (.getfield 44, 3) := by decide +kernel
theorem dX0_faultOf_68 : decode cX0_faultOf 68 = .ok (.getfield 103, 3) := by decide +kernel
theorem dX0_faultOf_71 : decode cX0_faultOf 71 = .ok (.iload_n 3, 1) := by decide +kernel
theorem dX0_faultOf_72 : decode cX0_faultOf 72 = .ok (.iaload, 1) := by decide +kernel
theorem dX0_faultOf_73 : decode cX0_faultOf 73 = .ok (.invokevirtual 127, 3) := by decide +kernel
theorem dX0_faultOf_76 : decode cX0_faultOf 76 = .ok (.invokestatic 161, 3) := by decide +kernel
theorem dX0_faultOf_79 : decode cX0_faultOf 79 = .ok (.lload 4, 2) := by decide +kernel
theorem dX0_faultOf_81 : decode cX0_faultOf 81 = .ok (.lcmp, 1) := by decide +kernel
theorem dX0_faultOf_82 : decode cX0_faultOf 82 = .ok (.ifCond .le 5, 3) := by decide +kernel
theorem dX0_faultOf_85 : decode cX0_faultOf 85 = .ok (.iconst 2, 1) := by decide +kernel
theorem dX0_faultOf_86 : decode cX0_faultOf 86 = .ok (.ireturn, 1) := by decide +kernel
theorem dX0_faultOf_87 : decode cX0_faultOf 87 = .ok (.aload_n 0, 1) := by decide +kernel
theorem dX0_faultOf_88 : decode cX0_faultOf 88 = .ok (.iload_n 1, 1) := by decide +kernel
theorem dX0_faultOf_89 : decode cX0_faultOf 89 = .ok (.invokevirtual 167, 3) := by decide +kernel
theorem dX0_faultOf_92 : decode cX0_faultOf 92 = .ok (.ifCond .eq 7, 3) := by decide +kernel
theorem dX0_faultOf_95 : decode cX0_faultOf 95 = .ok (.iconst 0, 1) := by decide +kernel
theorem dX0_faultOf_96 : decode cX0_faultOf 96 = .ok (.goto 4, 3) := by decide +kernel
theorem dX0_faultOf_99 : decode cX0_faultOf 99 = .ok (.iconst 5, 1) := by decide +kernel
theorem dX0_faultOf_100 : decode cX0_faultOf 100 = .ok (.ireturn, 1) := by decide +kernel
theorem dX0_hasNegativeFeedback_0 : decode cX0_hasNegativeFeedback 0 = .ok (.aload_n 0, 1) := by decide +kernel
theorem dX0_hasNegativeFeedback_1 : decode cX0_hasNegativeFeedback 1 = .ok (.getfield 91, 3) := by decide +kernel
theorem dX0_hasNegativeFeedback_4 : decode cX0_hasNegativeFeedback 4 = .ok (.iconst 1, 1) := by decide +kernel
theorem dX0_hasNegativeFeedback_5 : decode cX0_hasNegativeFeedback 5 = .ok (.iload_n 1, 1) := by decide +kernel
theorem dX0_hasNegativeFeedback_6 : decode cX0_hasNegativeFeedback 6 = .ok (.ishl, 1) := by decide +kernel
theorem dX0_hasNegativeFeedback_7 : decode cX0_hasNegativeFeedback 7 = .ok (.ior, 1) := by decide +kernel
theorem dX0_hasNegativeFeedback_8 : decode cX0_hasNegativeFeedback 8 = .ok (.istore_n 2, 1) := by decide +kernel
theorem dX0_hasNegativeFeedback_9 : decode cX0_hasNegativeFeedback 9 = .ok (.aload_n 0, 1) := by decide +kernel
theorem dX0_hasNegativeFeedback_10 : decode cX0_hasNegativeFeedback 10 = .ok (.getfield 12, 3) := by decide +kernel
theorem dX0_hasNegativeFeedback_13 : decode cX0_hasNegativeFeedback 13 = .ok (.getfield 44, 3) := by decide +kernel
theorem dX0_hasNegativeFeedback_16 : decode cX0_hasNegativeFeedback 16 = .ok (.astore_n 3, 1) := by decide +kernel
theorem dX0_hasNegativeFeedback_17 : decode cX0_hasNegativeFeedback 17 = .ok (.aload_n 0, 1) := by decide +kernel
theorem dX0_hasNegativeFeedback_18 : decode cX0_hasNegativeFeedback 18 = .ok (.getfield 18, 3) := by decide +kernel
theorem dX0_hasNegativeFeedback_21 : decode cX0_hasNegativeFeedback 21 = .ok (.iload_n 1, 1) := by decide +kernel
theorem dX0_hasNegativeFeedback_22 : decode cX0_hasNegativeFeedback 22 = .ok (.iaload, 1) := by decide +kernel
theorem dX0_hasNegativeFeedback_23 : decode cX0_hasNegativeFeedback 23 = .ok (.istore 4, 2) := by decide +kernel
theorem dX0_hasNegativeFeedback_25 : decode cX0_hasNegativeFeedback 25 = .ok (.aload_n 3, 1) := by decide +kernel
theorem dX0_hasNegativeFeedback_26 : decode cX0_hasNegativeFeedback 26 = .ok (.getfield 103, 3) := by decide +kernel
theorem dX0_hasNegativeFeedback_29 : decode cX0_hasNegativeFeedback 29 = .ok (.iload 4, 2) := by decide +kernel
theorem dX0_hasNegativeFeedback_31 : decode cX0_hasNegativeFeedback 31 = .ok (.iaload, 1) := by decide +kernel
theorem dX0_hasNegativeFeedback_32 : decode cX0_hasNegativeFeedback 32 = .ok (.istore 5, 2) := by decide +kernel
theorem dX0_hasNegativeFeedback_34 : decode cX0_hasNegativeFeedback 34 = .ok (.aload_n 0, 1) := by decide +kernel
theorem dX0_hasNegativeFeedback_35 : decode cX0_hasNegativeFeedback 35 = .ok (.getfield 25, 3) := by decide +kernel
theorem dX0_hasNegativeFeedback_38 : decode cX0_hasNegativeFeedback 38 = .ok (.getfield 109, 3) := by decide +kernel
theorem dX0_hasNegativeFeedback_41 : decode cX0_hasNegativeFeedback 41 = .ok (.iload_n 2, 1) := by decide +kernel
theorem dX0_hasNegativeFeedback_42 : decode cX0_hasNegativeFeedback 42 = .ok (.aaload, 1) := by decide +kernel
theorem dX0_hasNegativeFeedback_43 : decode cX0_hasNegativeFeedback 43 = .ok (.bipush 7, 2) := by decide +kernel
theorem dX0_hasNegativeFeedback_45 : decode cX0_hasNegativeFeedback 45 = .ok (.aload_n 3, 1) := by decide +kernel
theorem dX0_hasNegativeFeedback_46 : decode cX0_hasNegativeFeedback 46 = .ok (.getfield 100, 3) := by decide +kernel
theorem dX0_hasNegativeFeedback_49 : decode cX0_hasNegativeFeedback 49 = .ok (.iload 4, 2) := by decide +kernel
theorem dX0_hasNegativeFeedback_51 : decode cX0_hasNegativeFeedback 51 = .ok (.iaload, 1) := by decide +kernel
theorem dX0_hasNegativeFeedback_52 : decode cX0_hasNegativeFeedback 52 = .ok (.imul, 1) := by decide +kernel
theorem dX0_hasNegativeFeedback_53 : decode cX0_hasNegativeFeedback 53 = .ok (.iload 5, 2) := by decide +kernel
theorem dX0_hasNegativeFeedback_55 : decode cX0_hasNegativeFeedback 55 = .ok (.iadd, 1) := by decide +kernel
theorem dX0_hasNegativeFeedback_56 : decode cX0_hasNegativeFeedback 56 = .ok (.laload, 1) := by decide +kernel
theorem dX0_hasNegativeFeedback_57 : decode cX0_hasNegativeFeedback 57 = .ok (.lstore 6, 2) := by decide +kernel
theorem dX0_hasNegativeFeedback_59 : decode cX0_hasNegativeFeedback 59 = .ok (.aload_n 0, 1) := by decide +kernel
theorem dX0_hasNegativeFeedback_60 : decode cX0_hasNegativeFeedback 60 = .ok (.getfield 25, 3) := by decide +kernel
theorem dX0_hasNegativeFeedback_63 : decode cX0_hasNegativeFeedback 63 = .ok (.getfield 109, 3) := by decide +kernel
theorem dX0_hasNegativeFeedback_66 : decode cX0_hasNegativeFeedback 66 = .ok (.iload_n 2, 1) := by decide +kernel
theorem dX0_hasNegativeFeedback_67 : decode cX0_hasNegativeFeedback 67 = .ok (.aaload, 1) := by decide +kernel
theorem dX0_hasNegativeFeedback_68 : decode cX0_hasNegativeFeedback 68 = .ok (.bipush 7, 2) := by decide +kernel
theorem dX0_hasNegativeFeedback_70 : decode cX0_hasNegativeFeedback 70 = .ok (.aload_n 3, 1) := by decide +kernel
theorem dX0_hasNegativeFeedback_71 : decode cX0_hasNegativeFeedback 71 = .ok (.getfield 140, 3) := by decide +kernel
theorem dX0_hasNegativeFeedback_74 : decode cX0_hasNegativeFeedback 74 = .ok (.iload 4, 2) := by decide +kernel
theorem dX0_hasNegativeFeedback_76 : decode cX0_hasNegativeFeedback 76 = .ok (.iaload, 1) := by decide +kernel
theorem dX0_hasNegativeFeedback_77 : decode cX0_hasNegativeFeedback 77 = .ok (.imul, 1) := by decide +kernel
theorem dX0_hasNegativeFeedback_78 : decode cX0_hasNegativeFeedback 78 = .ok (.iload 5, 2) := by decide +kernel
theorem dX0_hasNegativeFeedback_80 : decode cX0_hasNegativeFeedback 80 = .ok (.iadd, 1) := by decide +kernel
theorem dX0_hasNegativeFeedback_81 : decode cX0_hasNegativeFeedback 81 = .ok (.laload, 1) := by decide +kernel
theorem dX0_hasNegativeFeedback_82 : decode cX0_hasNegativeFeedback 82 = .ok (.lstore 8, 2) := by decide +kernel
theorem dX0_hasNegativeFeedback_84 : decode cX0_hasNegativeFeedback 84 = .ok (.aload_n 0, 1) := by decide +kernel
theorem dX0_hasNegativeFeedback_85 : decode cX0_hasNegativeFeedback 85 = .ok (.getfield 25, 3) := by decide +kernel
theorem dX0_hasNegativeFeedback_88 : decode cX0_hasNegativeFeedback 88 = .ok (.getfield 85, 3) := by decide +kernel
theorem dX0_hasNegativeFeedback_91 : decode cX0_hasNegativeFeedback 91 = .ok (.iload_n 2, 1) := by decide +kernel
theorem dX0_hasNegativeFeedback_92 : decode cX0_hasNegativeFeedback 92 = .ok (.laload, 1) := by decide +kernel
theorem dX0_hasNegativeFeedback_93 : decode cX0_hasNegativeFeedback 93 = .ok (.lconst 0, 1) := by decide +kernel
theorem dX0_hasNegativeFeedback_94 : decode cX0_hasNegativeFeedback 94 = .ok (.lcmp, 1) := by decide +kernel
theorem dX0_hasNegativeFeedback_95 : decode cX0_hasNegativeFeedback 95 = .ok (.ifCond .eq 15, 3) := by decide +kernel
theorem dX0_hasNegativeFeedback_98 : decode cX0_hasNegativeFeedback 98 = .ok (.lload 6, 2) := by decide +kernel
theorem dX0_hasNegativeFeedback_100 : decode cX0_hasNegativeFeedback 100 = .ok (.lload 8, 2) := by decide +kernel
theorem dX0_hasNegativeFeedback_102 : decode cX0_hasNegativeFeedback 102 = .ok (.lcmp, 1) := by decide +kernel
theorem dX0_hasNegativeFeedback_103 : decode cX0_hasNegativeFeedback 103 = .ok (.ifCond .ge 7, 3) := by decide +kernel
theorem dX0_hasNegativeFeedback_106 : decode cX0_hasNegativeFeedback 106 = .ok (.iconst 1, 1) := by decide +kernel
theorem dX0_hasNegativeFeedback_107 : decode cX0_hasNegativeFeedback 107 = .ok (.goto 4, 3) := by decide +kernel
theorem dX0_hasNegativeFeedback_110 : decode cX0_hasNegativeFeedback 110 = .ok (.iconst 0, 1) := by decide +kernel
theorem dX0_hasNegativeFeedback_111 : decode cX0_hasNegativeFeedback 111 = .ok (.ireturn, 1) := by decide +kernel
theorem dX1_init_0 : decode cX1_init 0 = .ok (.aload_n 0, 1) := by decide +kernel
theorem dX1_init_1 : decode cX1_init 1 = .ok (.invokespecial 3, 3) := by decide +kernel
theorem dX1_init_4 : decode cX1_init 4 = .ok (.aload_n 0, 1) := by decide +kernel
theorem dX1_init_5 : decode cX1_init 5 = .ok (.bipush 8, 2) := by decide +kernel
theorem dX1_init_7 : decode cX1_init 7 = .ok (.anewarray 9, 3) := by decide +kernel
theorem dX1_init_10 : decode cX1_init 10 = .ok (.putfield 11, 3) := by decide +kernel
theorem dX1_init_13 : decode cX1_init 13 = .ok (.iconst 0, 1) := by decide +kernel
theorem dX1_init_14 : decode cX1_init 14 = .ok (.istore_n 1, 1) := by decide +kernel
theorem dX1_init_15 : decode cX1_init 15 = .ok (.iload_n 1, 1) := by decide +kernel
theorem dX1_init_16 : decode cX1_init 16 = .ok (.bipush 8, 2) := by decide +kernel
theorem dX1_init_18 : decode cX1_init 18 = .ok (.if_icmp .ge 22, 3) := by decide +kernel
theorem dX1_init_21 : decode cX1_init 21 = .ok (.aload_n 0, 1) := by decide +kernel
theorem dX1_init_22 : decode cX1_init 22 = .ok (.getfield 11, 3) := by decide +kernel
theorem dX1_init_25 : decode cX1_init 25 = .ok (.iload_n 1, 1) := by decide +kernel
theorem dX1_init_26 : decode cX1_init 26 = .ok (.new 9, 3) := by decide +kernel
theorem dX1_init_29 : decode cX1_init 29 = .ok (.dup, 1) := by decide +kernel
theorem dX1_init_30 : decode cX1_init 30 = .ok (.invokespecial 17, 3) := by decide +kernel
theorem dX1_init_33 : decode cX1_init 33 = .ok (.aastore, 1) := by decide +kernel
theorem dX1_init_34 : decode cX1_init 34 = .ok (.iinc 1 1, 3) := by decide +kernel
theorem dX1_init_37 : decode cX1_init 37 = .ok (.goto (-22), 3) := by decide +kernel
theorem dX1_init_40 : decode cX1_init 40 = .ok (.return_, 1) := by decide +kernel
theorem dX1_record_0 : decode cX1_record 0 = .ok (.aload_n 0, 1) := by decide +kernel
theorem dX1_record_1 : decode cX1_record 1 = .ok (.getfield 11, 3) := by decide +kernel
theorem dX1_record_4 : decode cX1_record 4 = .ok (.aload_n 0, 1) := by decide +kernel
theorem dX1_record_5 : decode cX1_record 5 = .ok (.getfield 18, 3) := by decide +kernel
theorem dX1_record_8 : decode cX1_record 8 = .ok (.aload_n 0, 1) := by decide +kernel
theorem dX1_record_9 : decode cX1_record 9 = .ok (.getfield 22, 3) := by decide +kernel
theorem dX1_record_12 : decode cX1_record 12 = .ok (.iadd, 1) := by decide +kernel
theorem dX1_record_13 : decode cX1_record 13 = .ok (.bipush 8, 2) := by decide +kernel
theorem dX1_record_15 : decode cX1_record 15 = .ok (.irem, 1) := by decide +kernel
theorem dX1_record_16 : decode cX1_record 16 = .ok (.aaload, 1) := by decide +kernel
theorem dX1_record_17 : decode cX1_record 17 = .ok (.aload_n 1, 1) := by decide +kernel
theorem dX1_record_18 : decode cX1_record 18 = .ok (.invokevirtual 25, 3) := by decide +kernel
theorem dX1_record_21 : decode cX1_record 21 = .ok (.aload_n 0, 1) := by decide +kernel
theorem dX1_record_22 : decode cX1_record 22 = .ok (.getfield 22, 3) := by decide +kernel
theorem dX1_record_25 : decode cX1_record 25 = .ok (.bipush 8, 2) := by decide +kernel
theorem dX1_record_27 : decode cX1_record 27 = .ok (.if_icmp .ge 16, 3) := by decide +kernel
theorem dX1_record_30 : decode cX1_record 30 = .ok (.aload_n 0, 1) := by decide +kernel
theorem dX1_record_31 : decode cX1_record 31 = .ok (.dup, 1) := by decide +kernel
theorem dX1_record_32 : decode cX1_record 32 = .ok (.getfield 22, 3) := by decide +kernel
theorem dX1_record_35 : decode cX1_record 35 = .ok (.iconst 1, 1) := by decide +kernel
theorem dX1_record_36 : decode cX1_record 36 = .ok (.iadd, 1) := by decide +kernel
theorem dX1_record_37 : decode cX1_record 37 = .ok (.putfield 22, 3) := by decide +kernel
theorem dX1_record_40 : decode cX1_record 40 = .ok (.goto 16, 3) := by decide +kernel
theorem dX1_record_43 : decode cX1_record 43 = .ok (.aload_n 0, 1) := by decide +kernel
theorem dX1_record_44 : decode cX1_record 44 = .ok (.aload_n 0, 1) := by decide +kernel
theorem dX1_record_45 : decode cX1_record 45 = .ok (.getfield 18, 3) := by decide +kernel
theorem dX1_record_48 : decode cX1_record 48 = .ok (.iconst 1, 1) := by decide +kernel
theorem dX1_record_49 : decode cX1_record 49 = .ok (.iadd, 1) := by decide +kernel
theorem dX1_record_50 : decode cX1_record 50 = .ok (.bipush 8, 2) := by decide +kernel
theorem dX1_record_52 : decode cX1_record 52 = .ok (.irem, 1) := by decide +kernel
theorem dX1_record_53 : decode cX1_record 53 = .ok (.putfield 18, 3) := by decide +kernel
theorem dX1_record_56 : decode cX1_record 56 = .ok (.return_, 1) := by decide +kernel
theorem dX1_removeLatest_0 : decode cX1_removeLatest 0 = .ok (.aload_n 0, 1) := by decide +kernel
theorem dX1_removeLatest_1 : decode cX1_removeLatest 1 = .ok (.dup, 1) := by decide +kernel
theorem dX1_removeLatest_2 : decode cX1_removeLatest 2 = .ok (.getfield 22, 3) := by decide +kernel
theorem dX1_removeLatest_5 : decode cX1_removeLatest 5 = .ok (.iconst 1, 1) := by decide +kernel
theorem dX1_removeLatest_6 : decode cX1_removeLatest 6 = .ok (.isub, 1) := by decide +kernel
theorem dX1_removeLatest_7 : decode cX1_removeLatest 7 = .ok (.putfield 22, 3) := by decide +kernel
theorem dX1_removeLatest_10 : decode cX1_removeLatest 10 = .ok (.aload_n 0, 1) := by decide +kernel
theorem dX1_removeLatest_11 : decode cX1_removeLatest 11 = .ok (.getfield 11, 3) := by decide +kernel
theorem dX1_removeLatest_14 : decode cX1_removeLatest 14 = .ok (.aload_n 0, 1) := by decide +kernel
theorem dX1_removeLatest_15 : decode cX1_removeLatest 15 = .ok (.getfield 18, 3) := by decide +kernel
theorem dX1_removeLatest_18 : decode cX1_removeLatest 18 = .ok (.aload_n 0, 1) := by decide +kernel
theorem dX1_removeLatest_19 : decode cX1_removeLatest 19 = .ok (.getfield 22, 3) := by decide +kernel
theorem dX1_removeLatest_22 : decode cX1_removeLatest 22 = .ok (.iadd, 1) := by decide +kernel
theorem dX1_removeLatest_23 : decode cX1_removeLatest 23 = .ok (.bipush 8, 2) := by decide +kernel
theorem dX1_removeLatest_25 : decode cX1_removeLatest 25 = .ok (.irem, 1) := by decide +kernel
theorem dX1_removeLatest_26 : decode cX1_removeLatest 26 = .ok (.aaload, 1) := by decide +kernel
theorem dX1_removeLatest_27 : decode cX1_removeLatest 27 = .ok (.areturn, 1) := by decide +kernel
theorem dX2_init_0 : decode cX2_init 0 = .ok (.aload_n 0, 1) := by decide +kernel
theorem dX2_init_1 : decode cX2_init 1 = .ok (.invokespecial 3, 3) := by decide +kernel
theorem dX2_init_4 : decode cX2_init 4 = .ok (.aload_n 0, 1) := by decide +kernel
theorem dX2_init_5 : decode cX2_init 5 = .ok (.iload_n 1, 1) := by decide +kernel
theorem dX2_init_6 : decode cX2_init 6 = .ok (.newarray .int, 2) := by decide +kernel
theorem dX2_init_8 : decode cX2_init 8 = .ok (.putfield 9, 3) := by decide +kernel
theorem dX2_init_11 : decode cX2_init 11 = .ok (.aload_n 0, 1) := by decide +kernel
theorem dX2_init_12 : decode cX2_init 12 = .ok (.iload_n 1, 1) := by decide +kernel
theorem dX2_init_13 : decode cX2_init 13 = .ok (.newarray .int, 2) := by decide +kernel
theorem dX2_init_15 : decode cX2_init 15 = .ok (.putfield 15, 3) := by decide +kernel
theorem dX2_init_18 : decode cX2_init 18 = .ok (.aload_n 0, 1) := by decide +kernel
theorem dX2_init_19 : decode cX2_init 19 = .ok (.iload_n 1, 1) := by decide +kernel
theorem dX2_init_20 : decode cX2_init 20 = .ok (.newarray .int, 2) := by decide +kernel
theorem dX2_init_22 : decode cX2_init 22 = .ok (.putfield 18, 3) := by decide +kernel
theorem dX2_init_25 : decode cX2_init 25 = .ok (.aload_n 0, 1) := by decide +kernel
theorem dX2_init_26 : decode cX2_init 26 = .ok (.iload_n 1, 1) := by decide +kernel
theorem dX2_init_27 : decode cX2_init 27 = .ok (.newarray .int, 2) := by decide +kernel
theorem dX2_init_29 : decode cX2_init 29 = .ok (.putfield 21, 3) := by decide +kernel
theorem dX2_init_32 : decode cX2_init 32 = .ok (.return_, 1) := by decide +kernel
theorem dX2_copyFrom_0 : decode cX2_copyFrom 0 = .ok (.aload_n 0, 1) := by decide +kernel
theorem dX2_copyFrom_1 : decode cX2_copyFrom 1 = .ok (.iconst 0, 1) := by decide +kernel
theorem dX2_copyFrom_2 : decode cX2_copyFrom 2 = .ok (.putfield 24, 3) := by decide +kernel
theorem dX2_copyFrom_5 : decode cX2_copyFrom 5 = .ok (.aload_n 0, 1) := by decide +kernel
theorem dX2_copyFrom_6 : decode cX2_copyFrom 6 = .ok (.aload_n 1, 1) := by decide +kernel
theorem dX2_copyFrom_7 : decode cX2_copyFrom 7 = .ok (.invokevirtual 28, 3) := by decide +kernel
theorem dX2_copyFrom_10 : decode cX2_copyFrom 10 = .ok (.return_, 1) := by decide +kernel
theorem dX2_addAll_0 : decode cX2_addAll 0 = .ok (.iconst 0, 1) := by decide +kernel
theorem dX2_addAll_1 : decode cX2_addAll 1 = .ok (.istore_n 2, 1) := by decide +kernel
theorem dX2_addAll_2 : decode cX2_addAll 2 = .ok (.iload_n 2, 1) := by decide +kernel
theorem dX2_addAll_3 : decode cX2_addAll 3 = .ok (.aload_n 1, 1) := by decide +kernel
theorem dX2_addAll_4 : decode cX2_addAll 4 = .ok (.getfield 24, 3) := by decide +kernel
theorem dX2_addAll_7 : decode cX2_addAll 7 = .ok (.if_icmp .ge 37, 3) := by decide +kernel
theorem dX2_addAll_10 : decode cX2_addAll 10 = .ok (.aload_n 0, 1) := by decide +kernel
theorem dX2_addAll_11 : decode cX2_addAll 11 = .ok (.aload_n 1, 1) := by decide +kernel
theorem dX2_addAll_12 : decode cX2_addAll 12 = .ok (.getfield 9, 3) := by decide +kernel
theorem dX2_addAll_15 : decode cX2_addAll 15 = .ok (.iload_n 2, 1) := by decide +kernel
theorem dX2_addAll_16 : decode cX2_addAll 16 = .ok (.iaload, 1) := by decide +kernel
theorem dX2_addAll_17 : decode cX2_addAll 17 = .ok (.aload_n 1, 1) := by decide +kernel
theorem dX2_addAll_18 : decode cX2_addAll 18 = .ok (.getfield 15, 3) := by decide +kernel
theorem dX2_addAll_21 : decode cX2_addAll 21 = .ok (.iload_n 2, 1) := by decide +kernel
theorem dX2_addAll_22 : decode cX2_addAll 22 = .ok (.iaload, 1) := by decide +kernel
theorem dX2_addAll_23 : decode cX2_addAll 23 = .ok (.aload_n 1, 1) := by decide +kernel
theorem dX2_addAll_24 : decode cX2_addAll 24 = .ok (.getfield 18, 3) := by decide +kernel
theorem dX2_addAll_27 : decode cX2_addAll 27 = .ok (.iload_n 2, 1) := by decide +kernel
theorem dX2_addAll_28 : decode cX2_addAll 28 = .ok (.iaload, 1) := by decide +kernel
theorem dX2_addAll_29 : decode cX2_addAll 29 = .ok (.aload_n 1, 1) := by decide +kernel
theorem dX2_addAll_30 : decode cX2_addAll 30 = .ok (.getfield 21, 3) := by decide +kernel
theorem dX2_addAll_33 : decode cX2_addAll 33 = .ok (.iload_n 2, 1) := by decide +kernel
theorem dX2_addAll_34 : decode cX2_addAll 34 = .ok (.iaload, 1) := by decide +kernel
theorem dX2_addAll_35 : decode cX2_addAll 35 = .ok (.invokevirtual 32, 3) := by decide +kernel
theorem dX2_addAll_38 : decode cX2_addAll 38 = .ok (.iinc 2 1, 3) := by decide +kernel
theorem dX2_addAll_41 : decode cX2_addAll 41 = .ok (.goto (-39), 3) := by decide +kernel
theorem dX2_addAll_44 : decode cX2_addAll 44 = .ok (.return_, 1) := by decide +kernel
theorem dX2_add_0 : decode cX2_add 0 = .ok (.aload_n 0, 1) := by decide +kernel
theorem dX2_add_1 : decode cX2_add 1 = .ok (.getfield 24, 3) := by decide +kernel
theorem dX2_add_4 : decode cX2_add 4 = .ok (.aload_n 0, 1) := by decide +kernel
theorem dX2_add_5 : decode cX2_add 5 = .ok (.getfield 9, 3) := by decide +kernel
theorem dX2_add_8 : decode cX2_add 8 = .ok (.arraylength, 1) := by decide +kernel
theorem dX2_add_9 : decode cX2_add 9 = .ok (.if_icmp .lt 4, 3) := by decide +kernel
theorem dX2_add_12 : decode cX2_add 12 = .ok (.return_, 1) := by decide +kernel
theorem dX2_add_13 : decode cX2_add 13 = .ok (.aload_n 0, 1) := by decide +kernel
theorem dX2_add_14 : decode cX2_add 14 = .ok (.getfield 9, 3) := by decide +kernel
theorem dX2_add_17 : decode cX2_add 17 = .ok (.aload_n 0, 1) := by decide +kernel
theorem dX2_add_18 : decode cX2_add 18 = .ok (.getfield 24, 3) := by decide +kernel
theorem dX2_add_21 : decode cX2_add 21 = .ok (.iload_n 1, 1) := by decide +kernel
theorem dX2_add_22 : decode cX2_add 22 = .ok (.iastore, 1) := by decide +kernel
theorem dX2_add_23 : decode cX2_add 23 = .ok (.aload_n 0, 1) := by decide +kernel
theorem dX2_add_24 : decode cX2_add 24 = .ok (.getfield 15, 3) := by decide +kernel
theorem dX2_add_27 : decode cX2_add 27 = .ok (.aload_n 0, 1) := by decide +kernel
theorem dX2_add_28 : decode cX2_add 28 = .ok (.getfield 24, 3) := by decide +kernel
theorem dX2_add_31 : decode cX2_add 31 = .ok (.iload_n 2, 1) := by decide +kernel
theorem dX2_add_32 : decode cX2_add 32 = .ok (.iastore, 1) := by decide +kernel
theorem dX2_add_33 : decode cX2_add 33 = .ok (.aload_n 0, 1) := by decide +kernel
theorem dX2_add_34 : decode cX2_add 34 = .ok (.getfield 18, 3) := by decide +kernel
theorem dX2_add_37 : decode cX2_add 37 = .ok (.aload_n 0, 1) := by decide +kernel
theorem dX2_add_38 : decode cX2_add 38 = .ok (.getfield 24, 3) := by decide +kernel
theorem dX2_add_41 : decode cX2_add 41 = .ok (.iload_n 3, 1) := by decide +kernel
theorem dX2_add_42 : decode cX2_add 42 = .ok (.iastore, 1) := by decide +kernel
theorem dX2_add_43 : decode cX2_add 43 = .ok (.aload_n 0, 1) := by decide +kernel
theorem dX2_add_44 : decode cX2_add 44 = .ok (.getfield 21, 3) := by decide +kernel
theorem dX2_add_47 : decode cX2_add 47 = .ok (.aload_n 0, 1) := by decide +kernel
theorem dX2_add_48 : decode cX2_add 48 = .ok (.getfield 24, 3) := by decide +kernel
theorem dX2_add_51 : decode cX2_add 51 = .ok (.iload 4, 2) := by decide +kernel
theorem dX2_add_53 : decode cX2_add 53 = .ok (.iastore, 1) := by decide +kernel
theorem dX2_add_54 : decode cX2_add 54 = .ok (.aload_n 0, 1) := by decide +kernel
theorem dX2_add_55 : decode cX2_add 55 = .ok (.dup, 1) := by decide +kernel
theorem dX2_add_56 : decode cX2_add 56 = .ok (.getfield 24, 3) := by decide +kernel
theorem dX2_add_59 : decode cX2_add 59 = .ok (.iconst 1, 1) := by decide +kernel
theorem dX2_add_60 : decode cX2_add 60 = .ok (.iadd, 1) := by decide +kernel
theorem dX2_add_61 : decode cX2_add 61 = .ok (.putfield 24, 3) := by decide +kernel
theorem dX2_add_64 : decode cX2_add 64 = .ok (.return_, 1) := by decide +kernel
theorem dX2_removeAt_0 : decode cX2_removeAt 0 = .ok (.iload_n 1, 1) := by decide +kernel
theorem dX2_removeAt_1 : decode cX2_removeAt 1 = .ok (.iconst 1, 1) := by decide +kernel
theorem dX2_removeAt_2 : decode cX2_removeAt 2 = .ok (.iadd, 1) := by decide +kernel
theorem dX2_removeAt_3 : decode cX2_removeAt 3 = .ok (.istore_n 2, 1) := by decide +kernel
theorem dX2_removeAt_4 : decode cX2_removeAt 4 = .ok (.iload_n 2, 1) := by decide +kernel
theorem dX2_removeAt_5 : decode cX2_removeAt 5 = .ok (.aload_n 0, 1) := by decide +kernel
theorem dX2_removeAt_6 : decode cX2_removeAt 6 = .ok (.getfield 24, 3) := by decide +kernel
theorem dX2_removeAt_9 : decode cX2_removeAt 9 = .ok (.if_icmp .ge 65, 3) := by decide +kernel
theorem dX2_removeAt_12 : decode cX2_removeAt 12 = .ok (.aload_n 0, 1) := by decide +kernel
theorem dX2_removeAt_13 : decode cX2_removeAt 13 = .ok (.getfield 9, 3) := by decide +kernel
theorem dX2_removeAt_16 : decode cX2_removeAt 16 = .ok (.iload_n 2, 1) := by decide +kernel
theorem dX2_removeAt_17 : decode cX2_removeAt 17 = .ok (.iconst 1, 1) := by decide +kernel
theorem dX2_removeAt_18 : decode cX2_removeAt 18 = .ok (.isub, 1) := by decide +kernel
theorem dX2_removeAt_19 : decode cX2_removeAt 19 = .ok (.aload_n 0, 1) := by decide +kernel
theorem dX2_removeAt_20 : decode cX2_removeAt 20 = .ok (.getfield 9, 3) := by decide +kernel
theorem dX2_removeAt_23 : decode cX2_removeAt 23 = .ok (.iload_n 2, 1) := by decide +kernel
theorem dX2_removeAt_24 : decode cX2_removeAt 24 = .ok (.iaload, 1) := by decide +kernel
theorem dX2_removeAt_25 : decode cX2_removeAt 25 = .ok (.iastore, 1) := by decide +kernel
theorem dX2_removeAt_26 : decode cX2_removeAt 26 = .ok (.aload_n 0, 1) := by decide +kernel
theorem dX2_removeAt_27 : decode cX2_removeAt 27 = .ok (.getfield 15, 3) := by decide +kernel
theorem dX2_removeAt_30 : decode cX2_removeAt 30 = .ok (.iload_n 2, 1) := by decide +kernel
theorem dX2_removeAt_31 : decode cX2_removeAt 31 = .ok (.iconst 1, 1) := by decide +kernel
theorem dX2_removeAt_32 : decode cX2_removeAt 32 = .ok (.isub, 1) := by decide +kernel
theorem dX2_removeAt_33 : decode cX2_removeAt 33 = .ok (.aload_n 0, 1) := by decide +kernel
theorem dX2_removeAt_34 : decode cX2_removeAt 34 = .ok (.getfield 15, 3) := by decide +kernel
theorem dX2_removeAt_37 : decode cX2_removeAt 37 = .ok (.iload_n 2, 1) := by decide +kernel
theorem dX2_removeAt_38 : decode cX2_removeAt 38 = .ok (.iaload, 1) := by decide +kernel
theorem dX2_removeAt_39 : decode cX2_removeAt 39 = .ok (.iastore, 1) := by decide +kernel
theorem dX2_removeAt_40 : decode cX2_removeAt 40 = .ok (.aload_n 0, 1) := by decide +kernel
theorem dX2_removeAt_41 : decode cX2_removeAt 41 = .ok (.getfield 18, 3) := by decide +kernel
theorem dX2_removeAt_44 : decode cX2_removeAt 44 = .ok (.iload_n 2, 1) := by decide +kernel
theorem dX2_removeAt_45 : decode cX2_removeAt 45 = .ok (.iconst 1, 1) := by decide +kernel
theorem dX2_removeAt_46 : decode cX2_removeAt 46 = .ok (.isub, 1) := by decide +kernel
theorem dX2_removeAt_47 : decode cX2_removeAt 47 = .ok (.aload_n 0, 1) := by decide +kernel
theorem dX2_removeAt_48 : decode cX2_removeAt 48 = .ok (.getfield 18, 3) := by decide +kernel
theorem dX2_removeAt_51 : decode cX2_removeAt 51 = .ok (.iload_n 2, 1) := by decide +kernel
theorem dX2_removeAt_52 : decode cX2_removeAt 52 = .ok (.iaload, 1) := by decide +kernel
theorem dX2_removeAt_53 : decode cX2_removeAt 53 = .ok (.iastore, 1) := by decide +kernel
theorem dX2_removeAt_54 : decode cX2_removeAt 54 = .ok (.aload_n 0, 1) := by decide +kernel
theorem dX2_removeAt_55 : decode cX2_removeAt 55 = .ok (.getfield 21, 3) := by decide +kernel
theorem dX2_removeAt_58 : decode cX2_removeAt 58 = .ok (.iload_n 2, 1) := by decide +kernel
theorem dX2_removeAt_59 : decode cX2_removeAt 59 = .ok (.iconst 1, 1) := by decide +kernel
theorem dX2_removeAt_60 : decode cX2_removeAt 60 = .ok (.isub, 1) := by decide +kernel
theorem dX2_removeAt_61 : decode cX2_removeAt 61 = .ok (.aload_n 0, 1) := by decide +kernel
theorem dX2_removeAt_62 : decode cX2_removeAt 62 = .ok (.getfield 21, 3) := by decide +kernel
theorem dX2_removeAt_65 : decode cX2_removeAt 65 = .ok (.iload_n 2, 1) := by decide +kernel
theorem dX2_removeAt_66 : decode cX2_removeAt 66 = .ok (.iaload, 1) := by decide +kernel
theorem dX2_removeAt_67 : decode cX2_removeAt 67 = .ok (.iastore, 1) := by decide +kernel
theorem dX2_removeAt_68 : decode cX2_removeAt 68 = .ok (.iinc 2 1, 3) := by decide +kernel
theorem dX2_removeAt_71 : decode cX2_removeAt 71 = .ok (.goto (-67), 3) := by decide +kernel
theorem dX2_removeAt_74 : decode cX2_removeAt 74 = .ok (.aload_n 0, 1) := by decide +kernel
theorem dX2_removeAt_75 : decode cX2_removeAt 75 = .ok (.dup, 1) := by decide +kernel
theorem dX2_removeAt_76 : decode cX2_removeAt 76 = .ok (.getfield 24, 3) := by decide +kernel
theorem dX2_removeAt_79 : decode cX2_removeAt 79 = .ok (.iconst 1, 1) := by decide +kernel
theorem dX2_removeAt_80 : decode cX2_removeAt 80 = .ok (.isub, 1) := by decide +kernel
theorem dX2_removeAt_81 : decode cX2_removeAt 81 = .ok (.putfield 24, 3) := by decide +kernel
theorem dX2_removeAt_84 : decode cX2_removeAt 84 = .ok (.return_, 1) := by decide +kernel
theorem dX2_amplifiersBefore_0 : decode cX2_amplifiersBefore 0 = .ok (.iconst 0, 1) := by decide +kernel
theorem dX2_amplifiersBefore_1 : decode cX2_amplifiersBefore 1 = .ok (.istore_n 2, 1) := by decide +kernel
theorem dX2_amplifiersBefore_2 : decode cX2_amplifiersBefore 2 = .ok (.iconst 0, 1) := by decide +kernel
theorem dX2_amplifiersBefore_3 : decode cX2_amplifiersBefore 3 = .ok (.istore_n 3, 1) := by decide +kernel
theorem dX2_amplifiersBefore_4 : decode cX2_amplifiersBefore 4 = .ok (.iload_n 3, 1) := by decide +kernel
theorem dX2_amplifiersBefore_5 : decode cX2_amplifiersBefore 5 = .ok (.iload_n 1, 1) := by decide +kernel
theorem dX2_amplifiersBefore_6 : decode cX2_amplifiersBefore 6 = .ok (.if_icmp .ge 22, 3) := by decide +kernel
theorem dX2_amplifiersBefore_9 : decode cX2_amplifiersBefore 9 = .ok (.aload_n 0, 1) := by decide +kernel
theorem dX2_amplifiersBefore_10 : decode cX2_amplifiersBefore 10 = .ok (.getfield 9, 3) := by decide +kernel
theorem dX2_amplifiersBefore_13 : decode cX2_amplifiersBefore 13 = .ok (.iload_n 3, 1) := by decide +kernel
theorem dX2_amplifiersBefore_14 : decode cX2_amplifiersBefore 14 = .ok (.iaload, 1) := by decide +kernel
theorem dX2_amplifiersBefore_15 : decode cX2_amplifiersBefore 15 = .ok (.iconst 2, 1) := by decide +kernel
theorem dX2_amplifiersBefore_16 : decode cX2_amplifiersBefore 16 = .ok (.if_icmp .ne 6, 3) := by decide +kernel
theorem dX2_amplifiersBefore_19 : decode cX2_amplifiersBefore 19 = .ok (.iinc 2 1, 3) := by decide +kernel
theorem dX2_amplifiersBefore_22 : decode cX2_amplifiersBefore 22 = .ok (.iinc 3 1, 3) := by decide +kernel
theorem dX2_amplifiersBefore_25 : decode cX2_amplifiersBefore 25 = .ok (.goto (-21), 3) := by decide +kernel
theorem dX2_amplifiersBefore_28 : decode cX2_amplifiersBefore 28 = .ok (.iload_n 2, 1) := by decide +kernel
theorem dX2_amplifiersBefore_29 : decode cX2_amplifiersBefore 29 = .ok (.ireturn, 1) := by decide +kernel
theorem dX2_usedNodes_0 : decode cX2_usedNodes 0 = .ok (.iconst 0, 1) := by decide +kernel
theorem dX2_usedNodes_1 : decode cX2_usedNodes 1 = .ok (.istore_n 1, 1) := by decide +kernel
theorem dX2_usedNodes_2 : decode cX2_usedNodes 2 = .ok (.iconst 0, 1) := by decide +kernel
theorem dX2_usedNodes_3 : decode cX2_usedNodes 3 = .ok (.istore_n 2, 1) := by decide +kernel
theorem dX2_usedNodes_4 : decode cX2_usedNodes 4 = .ok (.iload_n 2, 1) := by decide +kernel
theorem dX2_usedNodes_5 : decode cX2_usedNodes 5 = .ok (.aload_n 0, 1) := by decide +kernel
theorem dX2_usedNodes_6 : decode cX2_usedNodes 6 = .ok (.getfield 24, 3) := by decide +kernel
theorem dX2_usedNodes_9 : decode cX2_usedNodes 9 = .ok (.if_icmp .ge 62, 3) := by decide +kernel
theorem dX2_usedNodes_12 : decode cX2_usedNodes 12 = .ok (.iload_n 1, 1) := by decide +kernel
theorem dX2_usedNodes_13 : decode cX2_usedNodes 13 = .ok (.iconst 1, 1) := by decide +kernel
theorem dX2_usedNodes_14 : decode cX2_usedNodes 14 = .ok (.aload_n 0, 1) := by decide +kernel
theorem dX2_usedNodes_15 : decode cX2_usedNodes 15 = .ok (.getfield 15, 3) := by decide +kernel
theorem dX2_usedNodes_18 : decode cX2_usedNodes 18 = .ok (.iload_n 2, 1) := by decide +kernel
theorem dX2_usedNodes_19 : decode cX2_usedNodes 19 = .ok (.iaload, 1) := by decide +kernel
theorem dX2_usedNodes_20 : decode cX2_usedNodes 20 = .ok (.ishl, 1) := by decide +kernel
theorem dX2_usedNodes_21 : decode cX2_usedNodes 21 = .ok (.ior, 1) := by decide +kernel
theorem dX2_usedNodes_22 : decode cX2_usedNodes 22 = .ok (.istore_n 1, 1) := by decide +kernel
theorem dX2_usedNodes_23 : decode cX2_usedNodes 23 = .ok (.aload_n 0, 1) := by decide +kernel
theorem dX2_usedNodes_24 : decode cX2_usedNodes 24 = .ok (.getfield 9, 3) := by decide +kernel
theorem dX2_usedNodes_27 : decode cX2_usedNodes 27 = .ok (.iload_n 2, 1) := by decide +kernel
theorem dX2_usedNodes_28 : decode cX2_usedNodes 28 = .ok (.iaload, 1) := by decide +kernel
theorem dX2_usedNodes_29 : decode cX2_usedNodes 29 = .ok (.iconst 1, 1) := by decide +kernel
theorem dX2_usedNodes_30 : decode cX2_usedNodes 30 = .ok (.if_icmp .eq 14, 3) := by decide +kernel
theorem dX2_usedNodes_33 : decode cX2_usedNodes 33 = .ok (.iload_n 1, 1) := by decide +kernel
theorem dX2_usedNodes_34 : decode cX2_usedNodes 34 = .ok (.iconst 1, 1) := by decide +kernel
theorem dX2_usedNodes_35 : decode cX2_usedNodes 35 = .ok (.aload_n 0, 1) := by decide +kernel
theorem dX2_usedNodes_36 : decode cX2_usedNodes 36 = .ok (.getfield 18, 3) := by decide +kernel
theorem dX2_usedNodes_39 : decode cX2_usedNodes 39 = .ok (.iload_n 2, 1) := by decide +kernel
theorem dX2_usedNodes_40 : decode cX2_usedNodes 40 = .ok (.iaload, 1) := by decide +kernel
theorem dX2_usedNodes_41 : decode cX2_usedNodes 41 = .ok (.ishl, 1) := by decide +kernel
theorem dX2_usedNodes_42 : decode cX2_usedNodes 42 = .ok (.ior, 1) := by decide +kernel
theorem dX2_usedNodes_43 : decode cX2_usedNodes 43 = .ok (.istore_n 1, 1) := by decide +kernel
theorem dX2_usedNodes_44 : decode cX2_usedNodes 44 = .ok (.aload_n 0, 1) := by decide +kernel
theorem dX2_usedNodes_45 : decode cX2_usedNodes 45 = .ok (.getfield 9, 3) := by decide +kernel
theorem dX2_usedNodes_48 : decode cX2_usedNodes 48 = .ok (.iload_n 2, 1) := by decide +kernel
theorem dX2_usedNodes_49 : decode cX2_usedNodes 49 = .ok (.iaload, 1) := by decide +kernel
theorem dX2_usedNodes_50 : decode cX2_usedNodes 50 = .ok (.iconst 2, 1) := by decide +kernel
theorem dX2_usedNodes_51 : decode cX2_usedNodes 51 = .ok (.if_icmp .ne 14, 3) := by decide +kernel
theorem dX2_usedNodes_54 : decode cX2_usedNodes 54 = .ok (.iload_n 1, 1) := by decide +kernel
theorem dX2_usedNodes_55 : decode cX2_usedNodes 55 = .ok (.iconst 1, 1) := by decide +kernel
theorem dX2_usedNodes_56 : decode cX2_usedNodes 56 = .ok (.aload_n 0, 1) := by decide +kernel
theorem dX2_usedNodes_57 : decode cX2_usedNodes 57 = .ok (.getfield 21, 3) := by decide +kernel
theorem dX2_usedNodes_60 : decode cX2_usedNodes 60 = .ok (.iload_n 2, 1) := by decide +kernel
theorem dX2_usedNodes_61 : decode cX2_usedNodes 61 = .ok (.iaload, 1) := by decide +kernel
theorem dX2_usedNodes_62 : decode cX2_usedNodes 62 = .ok (.ishl, 1) := by decide +kernel
theorem dX2_usedNodes_63 : decode cX2_usedNodes 63 = .ok (.ior, 1) := by decide +kernel
theorem dX2_usedNodes_64 : decode cX2_usedNodes 64 = .ok (.istore_n 1, 1) := by decide +kernel
theorem dX2_usedNodes_65 : decode cX2_usedNodes 65 = .ok (.iinc 2 1, 3) := by decide +kernel
theorem dX2_usedNodes_68 : decode cX2_usedNodes 68 = .ok (.goto (-64), 3) := by decide +kernel
theorem dX2_usedNodes_71 : decode cX2_usedNodes 71 = .ok (.iload_n 1, 1) := by decide +kernel
theorem dX2_usedNodes_72 : decode cX2_usedNodes 72 = .ok (.bipush (-2), 2) := by decide +kernel
theorem dX2_usedNodes_74 : decode cX2_usedNodes 74 = .ok (.iand, 1) := by decide +kernel
theorem dX2_usedNodes_75 : decode cX2_usedNodes 75 = .ok (.ireturn, 1) := by decide +kernel
theorem dX2_drivenNode_0 : decode cX2_drivenNode 0 = .ok (.aload_n 0, 1) := by decide +kernel
theorem dX2_drivenNode_1 : decode cX2_drivenNode 1 = .ok (.getfield 9, 3) := by decide +kernel
theorem dX2_drivenNode_4 : decode cX2_drivenNode 4 = .ok (.iload_n 1, 1) := by decide +kernel
theorem dX2_drivenNode_5 : decode cX2_drivenNode 5 = .ok (.iaload, 1) := by decide +kernel
theorem dX2_drivenNode_6 : decode cX2_drivenNode 6 = .ok (.lookupswitch 40 #[(1, 26), (2, 33)], 26) := by decide +kernel
theorem dX2_drivenNode_32 : decode cX2_drivenNode 32 = .ok (.aload_n 0, 1) := by decide +kernel
theorem dX2_drivenNode_33 : decode cX2_drivenNode 33 = .ok (.getfield 15, 3) := by decide +kernel
theorem dX2_drivenNode_36 : decode cX2_drivenNode 36 = .ok (.iload_n 1, 1) := by decide +kernel
theorem dX2_drivenNode_37 : decode cX2_drivenNode 37 = .ok (.iaload, 1) := by decide +kernel
theorem dX2_drivenNode_38 : decode cX2_drivenNode 38 = .ok (.ireturn, 1) := by decide +kernel
theorem dX2_drivenNode_39 : decode cX2_drivenNode 39 = .ok (.aload_n 0, 1) := by decide +kernel
theorem dX2_drivenNode_40 : decode cX2_drivenNode 40 = .ok (.getfield 21, 3) := by decide +kernel
theorem dX2_drivenNode_43 : decode cX2_drivenNode 43 = .ok (.iload_n 1, 1) := by decide +kernel
theorem dX2_drivenNode_44 : decode cX2_drivenNode 44 = .ok (.iaload, 1) := by decide +kernel
theorem dX2_drivenNode_45 : decode cX2_drivenNode 45 = .ok (.ireturn, 1) := by decide +kernel
theorem dX2_drivenNode_46 : decode cX2_drivenNode 46 = .ok (.iconst (-1), 1) := by decide +kernel
theorem dX2_drivenNode_47 : decode cX2_drivenNode 47 = .ok (.ireturn, 1) := by decide +kernel
theorem dX2_drivenNodes_0 : decode cX2_drivenNodes 0 = .ok (.iconst 0, 1) := by decide +kernel
theorem dX2_drivenNodes_1 : decode cX2_drivenNodes 1 = .ok (.istore_n 1, 1) := by decide +kernel
theorem dX2_drivenNodes_2 : decode cX2_drivenNodes 2 = .ok (.iconst 0, 1) := by decide +kernel
theorem dX2_drivenNodes_3 : decode cX2_drivenNodes 3 = .ok (.istore_n 2, 1) := by decide +kernel
theorem dX2_drivenNodes_4 : decode cX2_drivenNodes 4 = .ok (.iload_n 2, 1) := by decide +kernel
theorem dX2_drivenNodes_5 : decode cX2_drivenNodes 5 = .ok (.aload_n 0, 1) := by decide +kernel
theorem dX2_drivenNodes_6 : decode cX2_drivenNodes 6 = .ok (.getfield 24, 3) := by decide +kernel
theorem dX2_drivenNodes_9 : decode cX2_drivenNodes 9 = .ok (.if_icmp .ge 28, 3) := by decide +kernel
theorem dX2_drivenNodes_12 : decode cX2_drivenNodes 12 = .ok (.aload_n 0, 1) := by decide +kernel
theorem dX2_drivenNodes_13 : decode cX2_drivenNodes 13 = .ok (.getfield 9, 3) := by decide +kernel
theorem dX2_drivenNodes_16 : decode cX2_drivenNodes 16 = .ok (.iload_n 2, 1) := by decide +kernel
theorem dX2_drivenNodes_17 : decode cX2_drivenNodes 17 = .ok (.iaload, 1) := by decide +kernel
theorem dX2_drivenNodes_18 : decode cX2_drivenNodes 18 = .ok (.ifCond .eq 13, 3) := by decide +kernel
theorem dX2_drivenNodes_21 : decode cX2_drivenNodes 21 = .ok (.iload_n 1, 1) := by decide +kernel
theorem dX2_drivenNodes_22 : decode cX2_drivenNodes 22 = .ok (.iconst 1, 1) := by decide +kernel
theorem dX2_drivenNodes_23 : decode cX2_drivenNodes 23 = .ok (.aload_n 0, 1) := by decide +kernel
theorem dX2_drivenNodes_24 : decode cX2_drivenNodes 24 = .ok (.iload_n 2, 1) := by decide +kernel
theorem dX2_drivenNodes_25 : decode cX2_drivenNodes 25 = .ok (.invokevirtual 36, 3) := by decide +kernel
theorem dX2_drivenNodes_28 : decode cX2_drivenNodes 28 = .ok (.ishl, 1) := by decide +kernel
theorem dX2_drivenNodes_29 : decode cX2_drivenNodes 29 = .ok (.ior, 1) := by decide +kernel
theorem dX2_drivenNodes_30 : decode cX2_drivenNodes 30 = .ok (.istore_n 1, 1) := by decide +kernel
theorem dX2_drivenNodes_31 : decode cX2_drivenNodes 31 = .ok (.iinc 2 1, 3) := by decide +kernel
theorem dX2_drivenNodes_34 : decode cX2_drivenNodes 34 = .ok (.goto (-30), 3) := by decide +kernel
theorem dX2_drivenNodes_37 : decode cX2_drivenNodes 37 = .ok (.iload_n 1, 1) := by decide +kernel
theorem dX2_drivenNodes_38 : decode cX2_drivenNodes 38 = .ok (.ireturn, 1) := by decide +kernel
theorem dX2_haveNodesAsTold_0 : decode cX2_haveNodesAsTold 0 = .ok (.iconst 0, 1) := by decide +kernel
theorem dX2_haveNodesAsTold_1 : decode cX2_haveNodesAsTold 1 = .ok (.istore_n 1, 1) := by decide +kernel
theorem dX2_haveNodesAsTold_2 : decode cX2_haveNodesAsTold 2 = .ok (.iload_n 1, 1) := by decide +kernel
theorem dX2_haveNodesAsTold_3 : decode cX2_haveNodesAsTold 3 = .ok (.aload_n 0, 1) := by decide +kernel
theorem dX2_haveNodesAsTold_4 : decode cX2_haveNodesAsTold 4 = .ok (.getfield 24, 3) := by decide +kernel
theorem dX2_haveNodesAsTold_7 : decode cX2_haveNodesAsTold 7 = .ok (.if_icmp .ge 19, 3) := by decide +kernel
theorem dX2_haveNodesAsTold_10 : decode cX2_haveNodesAsTold 10 = .ok (.aload_n 0, 1) := by decide +kernel
theorem dX2_haveNodesAsTold_11 : decode cX2_haveNodesAsTold 11 = .ok (.iload_n 1, 1) := by decide +kernel
theorem dX2_haveNodesAsTold_12 : decode cX2_haveNodesAsTold 12 = .ok (.invokevirtual 40, 3) := by decide +kernel
theorem dX2_haveNodesAsTold_15 : decode cX2_haveNodesAsTold 15 = .ok (.ifCond .ne 5, 3) := by decide +kernel
theorem dX2_haveNodesAsTold_18 : decode cX2_haveNodesAsTold 18 = .ok (.iconst 0, 1) := by decide +kernel
theorem dX2_haveNodesAsTold_19 : decode cX2_haveNodesAsTold 19 = .ok (.ireturn, 1) := by decide +kernel
theorem dX2_haveNodesAsTold_20 : decode cX2_haveNodesAsTold 20 = .ok (.iinc 1 1, 3) := by decide +kernel
theorem dX2_haveNodesAsTold_23 : decode cX2_haveNodesAsTold 23 = .ok (.goto (-21), 3) := by decide +kernel
theorem dX2_haveNodesAsTold_26 : decode cX2_haveNodesAsTold 26 = .ok (.iconst 1, 1) := by decide +kernel
theorem dX2_haveNodesAsTold_27 : decode cX2_haveNodesAsTold 27 = .ok (.ireturn, 1) := by decide +kernel
theorem dX2_hasNodesAsTold_0 : decode cX2_hasNodesAsTold 0 = .ok (.aload_n 0, 1) := by decide +kernel
theorem dX2_hasNodesAsTold_1 : decode cX2_hasNodesAsTold 1 = .ok (.getfield 9, 3) := by decide +kernel
theorem dX2_hasNodesAsTold_4 : decode cX2_hasNodesAsTold 4 = .ok (.iload_n 1, 1) := by decide +kernel
theorem dX2_hasNodesAsTold_5 : decode cX2_hasNodesAsTold 5 = .ok (.iaload, 1) := by decide +kernel
theorem dX2_hasNodesAsTold_6 : decode cX2_hasNodesAsTold 6 = .ok (.iconst 1, 1) := by decide +kernel
theorem dX2_hasNodesAsTold_7 : decode cX2_hasNodesAsTold 7 = .ok (.if_icmp .ne 18, 3) := by decide +kernel
theorem dX2_hasNodesAsTold_10 : decode cX2_hasNodesAsTold 10 = .ok (.aload_n 0, 1) := by decide +kernel
theorem dX2_hasNodesAsTold_11 : decode cX2_hasNodesAsTold 11 = .ok (.getfield 15, 3) := by decide +kernel
theorem dX2_hasNodesAsTold_14 : decode cX2_hasNodesAsTold 14 = .ok (.iload_n 1, 1) := by decide +kernel
theorem dX2_hasNodesAsTold_15 : decode cX2_hasNodesAsTold 15 = .ok (.iaload, 1) := by decide +kernel
theorem dX2_hasNodesAsTold_16 : decode cX2_hasNodesAsTold 16 = .ok (.ifCond .eq 7, 3) := by decide +kernel
theorem dX2_hasNodesAsTold_19 : decode cX2_hasNodesAsTold 19 = .ok (.iconst 1, 1) := by decide +kernel
theorem dX2_hasNodesAsTold_20 : decode cX2_hasNodesAsTold 20 = .ok (.goto 4, 3) := by decide +kernel
theorem dX2_hasNodesAsTold_23 : decode cX2_hasNodesAsTold 23 = .ok (.iconst 0, 1) := by decide +kernel
theorem dX2_hasNodesAsTold_24 : decode cX2_hasNodesAsTold 24 = .ok (.ireturn, 1) := by decide +kernel
theorem dX2_hasNodesAsTold_25 : decode cX2_hasNodesAsTold 25 = .ok (.aload_n 0, 1) := by decide +kernel
theorem dX2_hasNodesAsTold_26 : decode cX2_hasNodesAsTold 26 = .ok (.getfield 15, 3) := by decide +kernel
theorem dX2_hasNodesAsTold_29 : decode cX2_hasNodesAsTold 29 = .ok (.iload_n 1, 1) := by decide +kernel
theorem dX2_hasNodesAsTold_30 : decode cX2_hasNodesAsTold 30 = .ok (.iaload, 1) := by decide +kernel
theorem dX2_hasNodesAsTold_31 : decode cX2_hasNodesAsTold 31 = .ok (.aload_n 0, 1) := by decide +kernel
theorem dX2_hasNodesAsTold_32 : decode cX2_hasNodesAsTold 32 = .ok (.getfield 18, 3) := by decide +kernel
theorem dX2_hasNodesAsTold_35 : decode cX2_hasNodesAsTold 35 = .ok (.iload_n 1, 1) := by decide +kernel
theorem dX2_hasNodesAsTold_36 : decode cX2_hasNodesAsTold 36 = .ok (.iaload, 1) := by decide +kernel
theorem dX2_hasNodesAsTold_37 : decode cX2_hasNodesAsTold 37 = .ok (.if_icmp .ne 5, 3) := by decide +kernel
theorem dX2_hasNodesAsTold_40 : decode cX2_hasNodesAsTold 40 = .ok (.iconst 0, 1) := by decide +kernel
theorem dX2_hasNodesAsTold_41 : decode cX2_hasNodesAsTold 41 = .ok (.ireturn, 1) := by decide +kernel
theorem dX2_hasNodesAsTold_42 : decode cX2_hasNodesAsTold 42 = .ok (.aload_n 0, 1) := by decide +kernel
theorem dX2_hasNodesAsTold_43 : decode cX2_hasNodesAsTold 43 = .ok (.getfield 9, 3) := by decide +kernel
theorem dX2_hasNodesAsTold_46 : decode cX2_hasNodesAsTold 46 = .ok (.iload_n 1, 1) := by decide +kernel
theorem dX2_hasNodesAsTold_47 : decode cX2_hasNodesAsTold 47 = .ok (.iaload, 1) := by decide +kernel
theorem dX2_hasNodesAsTold_48 : decode cX2_hasNodesAsTold 48 = .ok (.ifCond .ne 5, 3) := by decide +kernel
theorem dX2_hasNodesAsTold_51 : decode cX2_hasNodesAsTold 51 = .ok (.iconst 1, 1) := by decide +kernel
theorem dX2_hasNodesAsTold_52 : decode cX2_hasNodesAsTold 52 = .ok (.ireturn, 1) := by decide +kernel
theorem dX2_hasNodesAsTold_53 : decode cX2_hasNodesAsTold 53 = .ok (.aload_n 0, 1) := by decide +kernel
theorem dX2_hasNodesAsTold_54 : decode cX2_hasNodesAsTold 54 = .ok (.getfield 21, 3) := by decide +kernel
theorem dX2_hasNodesAsTold_57 : decode cX2_hasNodesAsTold 57 = .ok (.iload_n 1, 1) := by decide +kernel
theorem dX2_hasNodesAsTold_58 : decode cX2_hasNodesAsTold 58 = .ok (.iaload, 1) := by decide +kernel
theorem dX2_hasNodesAsTold_59 : decode cX2_hasNodesAsTold 59 = .ok (.istore_n 2, 1) := by decide +kernel
theorem dX2_hasNodesAsTold_60 : decode cX2_hasNodesAsTold 60 = .ok (.iload_n 2, 1) := by decide +kernel
theorem dX2_hasNodesAsTold_61 : decode cX2_hasNodesAsTold 61 = .ok (.ifCond .eq 27, 3) := by decide +kernel
theorem dX2_hasNodesAsTold_64 : decode cX2_hasNodesAsTold 64 = .ok (.iload_n 2, 1) := by decide +kernel
theorem dX2_hasNodesAsTold_65 : decode cX2_hasNodesAsTold 65 = .ok (.aload_n 0, 1) := by decide +kernel
theorem dX2_hasNodesAsTold_66 : decode cX2_hasNodesAsTold 66 = .ok (.getfield 15, 3) := by decide +kernel
theorem dX2_hasNodesAsTold_69 : decode cX2_hasNodesAsTold 69 = .ok (.iload_n 1, 1) := by decide +kernel
theorem dX2_hasNodesAsTold_70 : decode cX2_hasNodesAsTold 70 = .ok (.iaload, 1) := by decide +kernel
theorem dX2_hasNodesAsTold_71 : decode cX2_hasNodesAsTold 71 = .ok (.if_icmp .eq 17, 3) := by decide +kernel
theorem dX2_hasNodesAsTold_74 : decode cX2_hasNodesAsTold 74 = .ok (.iload_n 2, 1) := by decide +kernel
theorem dX2_hasNodesAsTold_75 : decode cX2_hasNodesAsTold 75 = .ok (.aload_n 0, 1) := by decide +kernel
theorem dX2_hasNodesAsTold_76 : decode cX2_hasNodesAsTold 76 = .ok (.getfield 18, 3) := by decide +kernel
theorem dX2_hasNodesAsTold_79 : decode cX2_hasNodesAsTold 79 = .ok (.iload_n 1, 1) := by decide +kernel
theorem dX2_hasNodesAsTold_80 : decode cX2_hasNodesAsTold 80 = .ok (.iaload, 1) := by decide +kernel
theorem dX2_hasNodesAsTold_81 : decode cX2_hasNodesAsTold 81 = .ok (.if_icmp .eq 7, 3) := by decide +kernel
theorem dX2_hasNodesAsTold_84 : decode cX2_hasNodesAsTold 84 = .ok (.iconst 1, 1) := by decide +kernel
theorem dX2_hasNodesAsTold_85 : decode cX2_hasNodesAsTold 85 = .ok (.goto 4, 3) := by decide +kernel
theorem dX2_hasNodesAsTold_88 : decode cX2_hasNodesAsTold 88 = .ok (.iconst 0, 1) := by decide +kernel
theorem dX2_hasNodesAsTold_89 : decode cX2_hasNodesAsTold 89 = .ok (.ireturn, 1) := by decide +kernel
theorem dX2_haveRoomFor_0 : decode cX2_haveRoomFor 0 = .ok (.aload_n 0, 1) := by decide +kernel
theorem dX2_haveRoomFor_1 : decode cX2_haveRoomFor 1 = .ok (.getfield 24, 3) := by decide +kernel
theorem dX2_haveRoomFor_4 : decode cX2_haveRoomFor 4 = .ok (.aload_n 1, 1) := by decide +kernel
theorem dX2_haveRoomFor_5 : decode cX2_haveRoomFor 5 = .ok (.getfield 24, 3) := by decide +kernel
theorem dX2_haveRoomFor_8 : decode cX2_haveRoomFor 8 = .ok (.iadd, 1) := by decide +kernel
theorem dX2_haveRoomFor_9 : decode cX2_haveRoomFor 9 = .ok (.bipush 12, 2) := by decide +kernel
theorem dX2_haveRoomFor_11 : decode cX2_haveRoomFor 11 = .ok (.if_icmp .le 5, 3) := by decide +kernel
theorem dX2_haveRoomFor_14 : decode cX2_haveRoomFor 14 = .ok (.iconst 0, 1) := by decide +kernel
theorem dX2_haveRoomFor_15 : decode cX2_haveRoomFor 15 = .ok (.ireturn, 1) := by decide +kernel
theorem dX2_haveRoomFor_16 : decode cX2_haveRoomFor 16 = .ok (.aload_n 0, 1) := by decide +kernel
theorem dX2_haveRoomFor_17 : decode cX2_haveRoomFor 17 = .ok (.aload_n 0, 1) := by decide +kernel
theorem dX2_haveRoomFor_18 : decode cX2_haveRoomFor 18 = .ok (.getfield 24, 3) := by decide +kernel
theorem dX2_haveRoomFor_21 : decode cX2_haveRoomFor 21 = .ok (.invokevirtual 44, 3) := by decide +kernel
theorem dX2_haveRoomFor_24 : decode cX2_haveRoomFor 24 = .ok (.aload_n 1, 1) := by decide +kernel
theorem dX2_haveRoomFor_25 : decode cX2_haveRoomFor 25 = .ok (.aload_n 1, 1) := by decide +kernel
theorem dX2_haveRoomFor_26 : decode cX2_haveRoomFor 26 = .ok (.getfield 24, 3) := by decide +kernel
theorem dX2_haveRoomFor_29 : decode cX2_haveRoomFor 29 = .ok (.invokevirtual 44, 3) := by decide +kernel
theorem dX2_haveRoomFor_32 : decode cX2_haveRoomFor 32 = .ok (.iadd, 1) := by decide +kernel
theorem dX2_haveRoomFor_33 : decode cX2_haveRoomFor 33 = .ok (.iconst 3, 1) := by decide +kernel
theorem dX2_haveRoomFor_34 : decode cX2_haveRoomFor 34 = .ok (.if_icmp .le 5, 3) := by decide +kernel
theorem dX2_haveRoomFor_37 : decode cX2_haveRoomFor 37 = .ok (.iconst 0, 1) := by decide +kernel
theorem dX2_haveRoomFor_38 : decode cX2_haveRoomFor 38 = .ok (.ireturn, 1) := by decide +kernel
theorem dX2_haveRoomFor_39 : decode cX2_haveRoomFor 39 = .ok (.aload_n 0, 1) := by decide +kernel
theorem dX2_haveRoomFor_40 : decode cX2_haveRoomFor 40 = .ok (.invokevirtual 47, 3) := by decide +kernel
theorem dX2_haveRoomFor_43 : decode cX2_haveRoomFor 43 = .ok (.istore_n 2, 1) := by decide +kernel
theorem dX2_haveRoomFor_44 : decode cX2_haveRoomFor 44 = .ok (.iconst 0, 1) := by decide +kernel
theorem dX2_haveRoomFor_45 : decode cX2_haveRoomFor 45 = .ok (.istore_n 3, 1) := by decide +kernel
theorem dX2_haveRoomFor_46 : decode cX2_haveRoomFor 46 = .ok (.iload_n 3, 1) := by decide +kernel
theorem dX2_haveRoomFor_47 : decode cX2_haveRoomFor 47 = .ok (.aload_n 1, 1) := by decide +kernel
theorem dX2_haveRoomFor_48 : decode cX2_haveRoomFor 48 = .ok (.getfield 24, 3) := by decide +kernel
theorem dX2_haveRoomFor_51 : decode cX2_haveRoomFor 51 = .ok (.if_icmp .ge 43, 3) := by decide +kernel
theorem dX2_haveRoomFor_54 : decode cX2_haveRoomFor 54 = .ok (.aload_n 1, 1) := by decide +kernel
theorem dX2_haveRoomFor_55 : decode cX2_haveRoomFor 55 = .ok (.getfield 9, 3) := by decide +kernel
theorem dX2_haveRoomFor_58 : decode cX2_haveRoomFor 58 = .ok (.iload_n 3, 1) := by decide +kernel
theorem dX2_haveRoomFor_59 : decode cX2_haveRoomFor 59 = .ok (.iaload, 1) := by decide +kernel
theorem dX2_haveRoomFor_60 : decode cX2_haveRoomFor 60 = .ok (.ifCond .eq 28, 3) := by decide +kernel
theorem dX2_haveRoomFor_63 : decode cX2_haveRoomFor 63 = .ok (.aload_n 1, 1) := by decide +kernel
theorem dX2_haveRoomFor_64 : decode cX2_haveRoomFor 64 = .ok (.iload_n 3, 1) := by decide +kernel
theorem dX2_haveRoomFor_65 : decode cX2_haveRoomFor 65 = .ok (.invokevirtual 36, 3) := by decide +kernel
theorem dX2_haveRoomFor_68 : decode cX2_haveRoomFor 68 = .ok (.istore 4, 2) := by decide +kernel
theorem dX2_haveRoomFor_70 : decode cX2_haveRoomFor 70 = .ok (.iload_n 2, 1) := by decide +kernel
theorem dX2_haveRoomFor_71 : decode cX2_haveRoomFor 71 = .ok (.iload 4, 2) := by decide +kernel
theorem dX2_haveRoomFor_73 : decode cX2_haveRoomFor 73 = .ok (.invokestatic 51, 3) := by decide +kernel
theorem dX2_haveRoomFor_76 : decode cX2_haveRoomFor 76 = .ok (.ifCond .eq 5, 3) := by decide +kernel
theorem dX2_haveRoomFor_79 : decode cX2_haveRoomFor 79 = .ok (.iconst 0, 1) := by decide +kernel
theorem dX2_haveRoomFor_80 : decode cX2_haveRoomFor 80 = .ok (.ireturn, 1) := by decide +kernel
theorem dX2_haveRoomFor_81 : decode cX2_haveRoomFor 81 = .ok (.iload_n 2, 1) := by decide +kernel
theorem dX2_haveRoomFor_82 : decode cX2_haveRoomFor 82 = .ok (.iconst 1, 1) := by decide +kernel
theorem dX2_haveRoomFor_83 : decode cX2_haveRoomFor 83 = .ok (.iload 4, 2) := by decide +kernel
theorem dX2_haveRoomFor_85 : decode cX2_haveRoomFor 85 = .ok (.ishl, 1) := by decide +kernel
theorem dX2_haveRoomFor_86 : decode cX2_haveRoomFor 86 = .ok (.ior, 1) := by decide +kernel
theorem dX2_haveRoomFor_87 : decode cX2_haveRoomFor 87 = .ok (.istore_n 2, 1) := by decide +kernel
theorem dX2_haveRoomFor_88 : decode cX2_haveRoomFor 88 = .ok (.iinc 3 1, 3) := by decide +kernel
theorem dX2_haveRoomFor_91 : decode cX2_haveRoomFor 91 = .ok (.goto (-45), 3) := by decide +kernel
theorem dX2_haveRoomFor_94 : decode cX2_haveRoomFor 94 = .ok (.iconst 1, 1) := by decide +kernel
theorem dX2_haveRoomFor_95 : decode cX2_haveRoomFor 95 = .ok (.ireturn, 1) := by decide +kernel
theorem dX3_init_0 : decode cX3_init 0 = .ok (.aload_n 0, 1) := by decide +kernel
theorem dX3_init_1 : decode cX3_init 1 = .ok (.invokespecial 3, 3) := by decide +kernel
theorem dX3_init_4 : decode cX3_init 4 = .ok (.aload_n 0, 1) := by decide +kernel
theorem dX3_init_5 : decode cX3_init 5 = .ok (.bipush 8, 2) := by decide +kernel
theorem dX3_init_7 : decode cX3_init 7 = .ok (.newarray .long, 2) := by decide +kernel
theorem dX3_init_9 : decode cX3_init 9 = .ok (.putfield 9, 3) := by decide +kernel
theorem dX3_init_12 : decode cX3_init 12 = .ok (.aload_n 0, 1) := by decide +kernel
theorem dX3_init_13 : decode cX3_init 13 = .ok (.bipush 8, 2) := by decide +kernel
theorem dX3_init_15 : decode cX3_init 15 = .ok (.bipush 49, 2) := by decide +kernel
theorem dX3_init_17 : decode cX3_init 17 = .ok (.multianewarray 15 2, 4) := by decide +kernel
theorem dX3_init_21 : decode cX3_init 21 = .ok (.putfield 17, 3) := by decide +kernel
theorem dX3_init_24 : decode cX3_init 24 = .ok (.aload_n 0, 1) := by decide +kernel
theorem dX3_init_25 : decode cX3_init 25 = .ok (.bipush 7, 2) := by decide +kernel
theorem dX3_init_27 : decode cX3_init 27 = .ok (.bipush 14, 2) := by decide +kernel
theorem dX3_init_29 : decode cX3_init 29 = .ok (.multianewarray 15 2, 4) := by decide +kernel
theorem dX3_init_33 : decode cX3_init 33 = .ok (.putfield 20, 3) := by decide +kernel
theorem dX3_init_36 : decode cX3_init 36 = .ok (.return_, 1) := by decide +kernel
theorem dX3_solve_0 : decode cX3_solve 0 = .ok (.iconst 0, 1) := by decide +kernel
theorem dX3_solve_1 : decode cX3_solve 1 = .ok (.istore_n 3, 1) := by decide +kernel
theorem dX3_solve_2 : decode cX3_solve 2 = .ok (.iload_n 3, 1) := by decide +kernel
theorem dX3_solve_3 : decode cX3_solve 3 = .ok (.iconst 1, 1) := by decide +kernel
theorem dX3_solve_4 : decode cX3_solve 4 = .ok (.iload_n 2, 1) := by decide +kernel
theorem dX3_solve_5 : decode cX3_solve 5 = .ok (.ishl, 1) := by decide +kernel
theorem dX3_solve_6 : decode cX3_solve 6 = .ok (.if_icmp .ge 54, 3) := by decide +kernel
theorem dX3_solve_9 : decode cX3_solve 9 = .ok (.aload_n 0, 1) := by decide +kernel
theorem dX3_solve_10 : decode cX3_solve 10 = .ok (.aload_n 1, 1) := by decide +kernel
theorem dX3_solve_11 : decode cX3_solve 11 = .ok (.iload_n 3, 1) := by decide +kernel
theorem dX3_solve_12 : decode cX3_solve 12 = .ok (.invokevirtual 23, 3) := by decide +kernel
theorem dX3_solve_15 : decode cX3_solve 15 = .ok (.aload_n 0, 1) := by decide +kernel
theorem dX3_solve_16 : decode cX3_solve 16 = .ok (.invokevirtual 27, 3) := by decide +kernel
theorem dX3_solve_19 : decode cX3_solve 19 = .ok (.lstore 4, 2) := by decide +kernel
theorem dX3_solve_21 : decode cX3_solve 21 = .ok (.aload_n 0, 1) := by decide +kernel
theorem dX3_solve_22 : decode cX3_solve 22 = .ok (.getfield 9, 3) := by decide +kernel
theorem dX3_solve_25 : decode cX3_solve 25 = .ok (.iload_n 3, 1) := by decide +kernel
theorem dX3_solve_26 : decode cX3_solve 26 = .ok (.lload 4, 2) := by decide +kernel
theorem dX3_solve_28 : decode cX3_solve 28 = .ok (.invokestatic 31, 3) := by decide +kernel
theorem dX3_solve_31 : decode cX3_solve 31 = .ok (.lastore, 1) := by decide +kernel
theorem dX3_solve_32 : decode cX3_solve 32 = .ok (.aload_n 0, 1) := by decide +kernel
theorem dX3_solve_33 : decode cX3_solve 33 = .ok (.aload_n 0, 1) := by decide +kernel
theorem dX3_solve_34 : decode cX3_solve 34 = .ok (.getfield 17, 3) := by decide +kernel
theorem dX3_solve_37 : decode cX3_solve 37 = .ok (.iload_n 3, 1) := by decide +kernel
theorem dX3_solve_38 : decode cX3_solve 38 = .ok (.aaload, 1) := by decide +kernel
theorem dX3_solve_39 : decode cX3_solve 39 = .ok (.lload 4, 2) := by decide +kernel
theorem dX3_solve_41 : decode cX3_solve 41 = .ok (.lconst 0, 1) := by decide +kernel
theorem dX3_solve_42 : decode cX3_solve 42 = .ok (.lcmp, 1) := by decide +kernel
theorem dX3_solve_43 : decode cX3_solve 43 = .ok (.ifCond .ge 7, 3) := by decide +kernel
theorem dX3_solve_46 : decode cX3_solve 46 = .ok (.iconst (-1), 1) := by decide +kernel
theorem dX3_solve_47 : decode cX3_solve 47 = .ok (.goto 4, 3) := by decide +kernel
theorem dX3_solve_50 : decode cX3_solve 50 = .ok (.iconst 1, 1) := by decide +kernel
theorem dX3_solve_51 : decode cX3_solve 51 = .ok (.invokevirtual 37, 3) := by decide +kernel
theorem dX3_solve_54 : decode cX3_solve 54 = .ok (.iinc 3 1, 3) := by decide +kernel
theorem dX3_solve_57 : decode cX3_solve 57 = .ok (.goto (-55), 3) := by decide +kernel
theorem dX3_solve_60 : decode cX3_solve 60 = .ok (.return_, 1) := by decide +kernel
theorem dX3_writeRows_0 : decode cX3_writeRows 0 = .ok (.aload_n 1, 1) := by decide +kernel
theorem dX3_writeRows_1 : decode cX3_writeRows 1 = .ok (.invokevirtual 41, 3) := by decide +kernel
theorem dX3_writeRows_4 : decode cX3_writeRows 4 = .ok (.aload_n 1, 1) := by decide +kernel
theorem dX3_writeRows_5 : decode cX3_writeRows 5 = .ok (.invokevirtual 47, 3) := by decide +kernel
theorem dX3_writeRows_8 : decode cX3_writeRows 8 = .ok (.iconst (-1), 1) := by decide +kernel
theorem dX3_writeRows_9 : decode cX3_writeRows 9 = .ok (.ixor, 1) := by decide +kernel
theorem dX3_writeRows_10 : decode cX3_writeRows 10 = .ok (.iand, 1) := by decide +kernel
theorem dX3_writeRows_11 : decode cX3_writeRows 11 = .ok (.istore_n 3, 1) := by decide +kernel
theorem dX3_writeRows_12 : decode cX3_writeRows 12 = .ok (.iconst 0, 1) := by decide +kernel
theorem dX3_writeRows_13 : decode cX3_writeRows 13 = .ok (.istore 4, 2) := by decide +kernel
theorem dX3_writeRows_15 : decode cX3_writeRows 15 = .ok (.iload 4, 2) := by decide +kernel
theorem dX3_writeRows_17 : decode cX3_writeRows 17 = .ok (.bipush 7, 2) := by decide +kernel
theorem dX3_writeRows_19 : decode cX3_writeRows 19 = .ok (.if_icmp .ge 35, 3) := by decide +kernel
theorem dX3_writeRows_22 : decode cX3_writeRows 22 = .ok (.aload_n 0, 1) := by decide +kernel
theorem dX3_writeRows_23 : decode cX3_writeRows 23 = .ok (.getfield 20, 3) := by decide +kernel
theorem dX3_writeRows_26 : decode cX3_writeRows 26 = .ok (.iload 4, 2) := by decide +kernel
theorem dX3_writeRows_28 : decode cX3_writeRows 28 = .ok (.aaload, 1) := by decide +kernel
theorem dX3_writeRows_29 : decode cX3_writeRows 29 = .ok (.lconst 0, 1) := by decide +kernel
theorem dX3_writeRows_30 : decode cX3_writeRows 30 = .ok (.invokestatic 50, 3) := by decide +kernel
theorem dX3_writeRows_33 : decode cX3_writeRows 33 = .ok (.iload_n 3, 1) := by decide +kernel
theorem dX3_writeRows_34 : decode cX3_writeRows 34 = .ok (.iload 4, 2) := by decide +kernel
theorem dX3_writeRows_36 : decode cX3_writeRows 36 = .ok (.invokestatic 56, 3) := by decide +kernel
theorem dX3_writeRows_39 : decode cX3_writeRows 39 = .ok (.ifCond .ne 9, 3) := by decide +kernel
theorem dX3_writeRows_42 : decode cX3_writeRows 42 = .ok (.aload_n 0, 1) := by decide +kernel
theorem dX3_writeRows_43 : decode cX3_writeRows 43 = .ok (.iload 4, 2) := by decide +kernel
theorem dX3_writeRows_45 : decode cX3_writeRows 45 = .ok (.invokevirtual 60, 3) := by decide +kernel
theorem dX3_writeRows_48 : decode cX3_writeRows 48 = .ok (.iinc 4 1, 3) := by decide +kernel
theorem dX3_writeRows_51 : decode cX3_writeRows 51 = .ok (.goto (-36), 3) := by decide +kernel
theorem dX3_writeRows_54 : decode cX3_writeRows 54 = .ok (.iconst 0, 1) := by decide +kernel
theorem dX3_writeRows_55 : decode cX3_writeRows 55 = .ok (.istore 4, 2) := by decide +kernel
theorem dX3_writeRows_57 : decode cX3_writeRows 57 = .ok (.iconst 0, 1) := by decide +kernel
theorem dX3_writeRows_58 : decode cX3_writeRows 58 = .ok (.istore 5, 2) := by decide +kernel
theorem dX3_writeRows_60 : decode cX3_writeRows 60 = .ok (.iload 5, 2) := by decide +kernel
theorem dX3_writeRows_62 : decode cX3_writeRows 62 = .ok (.aload_n 1, 1) := by decide +kernel
theorem dX3_writeRows_63 : decode cX3_writeRows 63 = .ok (.getfield 64, 3) := by decide +kernel
theorem dX3_writeRows_66 : decode cX3_writeRows 66 = .ok (.if_icmp .ge 122, 3) := by decide +kernel
theorem dX3_writeRows_69 : decode cX3_writeRows 69 = .ok (.aload_n 1, 1) := by decide +kernel
theorem dX3_writeRows_70 : decode cX3_writeRows 70 = .ok (.getfield 68, 3) := by decide +kernel
theorem dX3_writeRows_73 : decode cX3_writeRows 73 = .ok (.iload 5, 2) := by decide +kernel
theorem dX3_writeRows_75 : decode cX3_writeRows 75 = .ok (.iaload, 1) := by decide +kernel
theorem dX3_writeRows_76 : decode cX3_writeRows 76 = .ok (.ifCond .ne 58, 3) := by decide +kernel
theorem dX3_writeRows_79 : decode cX3_writeRows 79 = .ok (.aload_n 0, 1) := by decide +kernel
theorem dX3_writeRows_80 : decode cX3_writeRows 80 = .ok (.aload_n 1, 1) := by decide +kernel
theorem dX3_writeRows_81 : decode cX3_writeRows 81 = .ok (.getfield 72, 3) := by decide +kernel
theorem dX3_writeRows_84 : decode cX3_writeRows 84 = .ok (.iload 5, 2) := by decide +kernel
theorem dX3_writeRows_86 : decode cX3_writeRows 86 = .ok (.iaload, 1) := by decide +kernel
theorem dX3_writeRows_87 : decode cX3_writeRows 87 = .ok (.aload_n 1, 1) := by decide +kernel
theorem dX3_writeRows_88 : decode cX3_writeRows 88 = .ok (.getfield 75, 3) := by decide +kernel
theorem dX3_writeRows_91 : decode cX3_writeRows 91 = .ok (.iload 5, 2) := by decide +kernel
theorem dX3_writeRows_93 : decode cX3_writeRows 93 = .ok (.iaload, 1) := by decide +kernel
theorem dX3_writeRows_94 : decode cX3_writeRows 94 = .ok (.aload_n 1, 1) := by decide +kernel
theorem dX3_writeRows_95 : decode cX3_writeRows 95 = .ok (.getfield 78, 3) := by decide +kernel
theorem dX3_writeRows_98 : decode cX3_writeRows 98 = .ok (.iload 5, 2) := by decide +kernel
theorem dX3_writeRows_100 : decode cX3_writeRows 100 = .ok (.iaload, 1) := by decide +kernel
theorem dX3_writeRows_101 : decode cX3_writeRows 101 = .ok (.iload_n 3, 1) := by decide +kernel
theorem dX3_writeRows_102 : decode cX3_writeRows 102 = .ok (.invokevirtual 81, 3) := by decide +kernel
theorem dX3_writeRows_105 : decode cX3_writeRows 105 = .ok (.aload_n 0, 1) := by decide +kernel
theorem dX3_writeRows_106 : decode cX3_writeRows 106 = .ok (.aload_n 1, 1) := by decide +kernel
theorem dX3_writeRows_107 : decode cX3_writeRows 107 = .ok (.getfield 75, 3) := by decide +kernel
theorem dX3_writeRows_110 : decode cX3_writeRows 110 = .ok (.iload 5, 2) := by decide +kernel
theorem dX3_writeRows_112 : decode cX3_writeRows 112 = .ok (.iaload, 1) := by decide +kernel
theorem dX3_writeRows_113 : decode cX3_writeRows 113 = .ok (.aload_n 1, 1) := by decide +kernel
theorem dX3_writeRows_114 : decode cX3_writeRows 114 = .ok (.getfield 72, 3) := by decide +kernel
theorem dX3_writeRows_117 : decode cX3_writeRows 117 = .ok (.iload 5, 2) := by decide +kernel
theorem dX3_writeRows_119 : decode cX3_writeRows 119 = .ok (.iaload, 1) := by decide +kernel
theorem dX3_writeRows_120 : decode cX3_writeRows 120 = .ok (.aload_n 1, 1) := by decide +kernel
theorem dX3_writeRows_121 : decode cX3_writeRows 121 = .ok (.getfield 78, 3) := by decide +kernel
theorem dX3_writeRows_124 : decode cX3_writeRows 124 = .ok (.iload 5, 2) := by decide +kernel
theorem dX3_writeRows_126 : decode cX3_writeRows 126 = .ok (.iaload, 1) := by decide +kernel
theorem dX3_writeRows_127 : decode cX3_writeRows 127 = .ok (.iload_n 3, 1) := by decide +kernel
theorem dX3_writeRows_128 : decode cX3_writeRows 128 = .ok (.invokevirtual 81, 3) := by decide +kernel
theorem dX3_writeRows_131 : decode cX3_writeRows 131 = .ok (.goto 51, 3) := by decide +kernel
theorem dX3_writeRows_134 : decode cX3_writeRows 134 = .ok (.aload_n 1, 1) := by decide +kernel
theorem dX3_writeRows_135 : decode cX3_writeRows 135 = .ok (.getfield 68, 3) := by decide +kernel
theorem dX3_writeRows_138 : decode cX3_writeRows 138 = .ok (.iload 5, 2) := by decide +kernel
theorem dX3_writeRows_140 : decode cX3_writeRows 140 = .ok (.iaload, 1) := by decide +kernel
theorem dX3_writeRows_141 : decode cX3_writeRows 141 = .ok (.iconst 2, 1) := by decide +kernel
theorem dX3_writeRows_142 : decode cX3_writeRows 142 = .ok (.if_icmp .ne 40, 3) := by decide +kernel
theorem dX3_writeRows_145 : decode cX3_writeRows 145 = .ok (.iload_n 2, 1) := by decide +kernel
theorem dX3_writeRows_146 : decode cX3_writeRows 146 = .ok (.iload 4, 2) := by decide +kernel
theorem dX3_writeRows_148 : decode cX3_writeRows 148 = .ok (.invokestatic 56, 3) := by decide +kernel
theorem dX3_writeRows_151 : decode cX3_writeRows 151 = .ok (.ifCond .ne 28, 3) := by decide +kernel
theorem dX3_writeRows_154 : decode cX3_writeRows 154 = .ok (.aload_n 0, 1) := by decide +kernel
theorem dX3_writeRows_155 : decode cX3_writeRows 155 = .ok (.aload_n 1, 1) := by decide +kernel
theorem dX3_writeRows_156 : decode cX3_writeRows 156 = .ok (.getfield 72, 3) := by decide +kernel
theorem dX3_writeRows_159 : decode cX3_writeRows 159 = .ok (.iload 5, 2) := by decide +kernel
theorem dX3_writeRows_161 : decode cX3_writeRows 161 = .ok (.iaload, 1) := by decide +kernel
theorem dX3_writeRows_162 : decode cX3_writeRows 162 = .ok (.aload_n 1, 1) := by decide +kernel
theorem dX3_writeRows_163 : decode cX3_writeRows 163 = .ok (.getfield 75, 3) := by decide +kernel
theorem dX3_writeRows_166 : decode cX3_writeRows 166 = .ok (.iload 5, 2) := by decide +kernel
theorem dX3_writeRows_168 : decode cX3_writeRows 168 = .ok (.iaload, 1) := by decide +kernel
theorem dX3_writeRows_169 : decode cX3_writeRows 169 = .ok (.aload_n 1, 1) := by decide +kernel
theorem dX3_writeRows_170 : decode cX3_writeRows 170 = .ok (.getfield 78, 3) := by decide +kernel
theorem dX3_writeRows_173 : decode cX3_writeRows 173 = .ok (.iload 5, 2) := by decide +kernel
theorem dX3_writeRows_175 : decode cX3_writeRows 175 = .ok (.iaload, 1) := by decide +kernel
theorem dX3_writeRows_176 : decode cX3_writeRows 176 = .ok (.invokevirtual 85, 3) := by decide +kernel
theorem dX3_writeRows_179 : decode cX3_writeRows 179 = .ok (.iinc 4 1, 3) := by decide +kernel
theorem dX3_writeRows_182 : decode cX3_writeRows 182 = .ok (.iinc 5 1, 3) := by decide +kernel
theorem dX3_writeRows_185 : decode cX3_writeRows 185 = .ok (.goto (-125), 3) := by decide +kernel
theorem dX3_writeRows_188 : decode cX3_writeRows 188 = .ok (.return_, 1) := by decide +kernel
theorem dX3_giveVoltage_0 : decode cX3_giveVoltage 0 = .ok (.aload_n 0, 1) := by decide +kernel
theorem dX3_giveVoltage_1 : decode cX3_giveVoltage 1 = .ok (.getfield 20, 3) := by decide +kernel
theorem dX3_giveVoltage_4 : decode cX3_giveVoltage 4 = .ok (.iload_n 1, 1) := by decide +kernel
theorem dX3_giveVoltage_5 : decode cX3_giveVoltage 5 = .ok (.aaload, 1) := by decide +kernel
theorem dX3_giveVoltage_6 : decode cX3_giveVoltage 6 = .ok (.iload_n 1, 1) := by decide +kernel
theorem dX3_giveVoltage_7 : decode cX3_giveVoltage 7 = .ok (.lconst 1, 1) := by decide +kernel
theorem dX3_giveVoltage_8 : decode cX3_giveVoltage 8 = .ok (.lastore, 1) := by decide +kernel
theorem dX3_giveVoltage_9 : decode cX3_giveVoltage 9 = .ok (.aload_n 0, 1) := by decide +kernel
theorem dX3_giveVoltage_10 : decode cX3_giveVoltage 10 = .ok (.getfield 20, 3) := by decide +kernel
theorem dX3_giveVoltage_13 : decode cX3_giveVoltage 13 = .ok (.iload_n 1, 1) := by decide +kernel
theorem dX3_giveVoltage_14 : decode cX3_giveVoltage 14 = .ok (.aaload, 1) := by decide +kernel
theorem dX3_giveVoltage_15 : decode cX3_giveVoltage 15 = .ok (.bipush 7, 2) := by decide +kernel
theorem dX3_giveVoltage_17 : decode cX3_giveVoltage 17 = .ok (.iload_n 1, 1) := by decide +kernel
theorem dX3_giveVoltage_18 : decode cX3_giveVoltage 18 = .ok (.iadd, 1) := by decide +kernel
theorem dX3_giveVoltage_19 : decode cX3_giveVoltage 19 = .ok (.lconst 1, 1) := by decide +kernel
theorem dX3_giveVoltage_20 : decode cX3_giveVoltage 20 = .ok (.lastore, 1) := by decide +kernel
theorem dX3_giveVoltage_21 : decode cX3_giveVoltage 21 = .ok (.return_, 1) := by decide +kernel
theorem dX3_join_0 : decode cX3_join 0 = .ok (.iload 4, 2) := by decide +kernel
theorem dX3_join_2 : decode cX3_join 2 = .ok (.iload_n 1, 1) := by decide +kernel
theorem dX3_join_3 : decode cX3_join 3 = .ok (.invokestatic 56, 3) := by decide +kernel
theorem dX3_join_6 : decode cX3_join 6 = .ok (.ifCond .eq 29, 3) := by decide +kernel
theorem dX3_join_9 : decode cX3_join 9 = .ok (.aload_n 0, 1) := by decide +kernel
theorem dX3_join_10 : decode cX3_join 10 = .ok (.getfield 20, 3) := by decide +kernel
theorem dX3_join_13 : decode cX3_join 13 = .ok (.iload_n 1, 1) := by decide +kernel
theorem dX3_join_14 : decode cX3_join 14 = .ok (.aaload, 1) := by decide +kernel
theorem dX3_join_15 : decode cX3_join 15 = .ok (.iload_n 1, 1) := by decide +kernel
theorem dX3_join_16 : decode cX3_join 16 = .ok (.dup2, 1) := by decide +kernel
theorem dX3_join_17 : decode cX3_join 17 = .ok (.laload, 1) := by decide +kernel
theorem dX3_join_18 : decode cX3_join 18 = .ok (.iload_n 3, 1) := by decide +kernel
theorem dX3_join_19 : decode cX3_join 19 = .ok (.i2l, 1) := by decide +kernel
theorem dX3_join_20 : decode cX3_join 20 = .ok (.ladd, 1) := by decide +kernel
theorem dX3_join_21 : decode cX3_join 21 = .ok (.lastore, 1) := by decide +kernel
theorem dX3_join_22 : decode cX3_join 22 = .ok (.aload_n 0, 1) := by decide +kernel
theorem dX3_join_23 : decode cX3_join 23 = .ok (.getfield 20, 3) := by decide +kernel
theorem dX3_join_26 : decode cX3_join 26 = .ok (.iload_n 1, 1) := by decide +kernel
theorem dX3_join_27 : decode cX3_join 27 = .ok (.aaload, 1) := by decide +kernel
theorem dX3_join_28 : decode cX3_join 28 = .ok (.iload_n 2, 1) := by decide +kernel
theorem dX3_join_29 : decode cX3_join 29 = .ok (.dup2, 1) := by decide +kernel
theorem dX3_join_30 : decode cX3_join 30 = .ok (.laload, 1) := by decide +kernel
theorem dX3_join_31 : decode cX3_join 31 = .ok (.iload_n 3, 1) := by decide +kernel
theorem dX3_join_32 : decode cX3_join 32 = .ok (.i2l, 1) := by decide +kernel
theorem dX3_join_33 : decode cX3_join 33 = .ok (.lsub, 1) := by decide +kernel
theorem dX3_join_34 : decode cX3_join 34 = .ok (.lastore, 1) := by decide +kernel
theorem dX3_join_35 : decode cX3_join 35 = .ok (.return_, 1) := by decide +kernel
theorem dX3_equateInputs_0 : decode cX3_equateInputs 0 = .ok (.aload_n 0, 1) := by decide +kernel
theorem dX3_equateInputs_1 : decode cX3_equateInputs 1 = .ok (.getfield 20, 3) := by decide +kernel
theorem dX3_equateInputs_4 : decode cX3_equateInputs 4 = .ok (.iload_n 3, 1) := by decide +kernel
theorem dX3_equateInputs_5 : decode cX3_equateInputs 5 = .ok (.aaload, 1) := by decide +kernel
theorem dX3_equateInputs_6 : decode cX3_equateInputs 6 = .ok (.lconst 0, 1) := by decide +kernel
theorem dX3_equateInputs_7 : decode cX3_equateInputs 7 = .ok (.invokestatic 50, 3) := by decide +kernel
theorem dX3_equateInputs_10 : decode cX3_equateInputs 10 = .ok (.aload_n 0, 1) := by decide +kernel
theorem dX3_equateInputs_11 : decode cX3_equateInputs 11 = .ok (.getfield 20, 3) := by decide +kernel
theorem dX3_equateInputs_14 : decode cX3_equateInputs 14 = .ok (.iload_n 3, 1) := by decide +kernel
theorem dX3_equateInputs_15 : decode cX3_equateInputs 15 = .ok (.aaload, 1) := by decide +kernel
theorem dX3_equateInputs_16 : decode cX3_equateInputs 16 = .ok (.iload_n 1, 1) := by decide +kernel
theorem dX3_equateInputs_17 : decode cX3_equateInputs 17 = .ok (.lconst 1, 1) := by decide +kernel
theorem dX3_equateInputs_18 : decode cX3_equateInputs 18 = .ok (.lastore, 1) := by decide +kernel
theorem dX3_equateInputs_19 : decode cX3_equateInputs 19 = .ok (.aload_n 0, 1) := by decide +kernel
theorem dX3_equateInputs_20 : decode cX3_equateInputs 20 = .ok (.getfield 20, 3) := by decide +kernel
theorem dX3_equateInputs_23 : decode cX3_equateInputs 23 = .ok (.iload_n 3, 1) := by decide +kernel
theorem dX3_equateInputs_24 : decode cX3_equateInputs 24 = .ok (.aaload, 1) := by decide +kernel
theorem dX3_equateInputs_25 : decode cX3_equateInputs 25 = .ok (.iload_n 2, 1) := by decide +kernel
theorem dX3_equateInputs_26 : decode cX3_equateInputs 26 = .ok (.ldc2_w 89, 3) := by decide +kernel
theorem dX3_equateInputs_29 : decode cX3_equateInputs 29 = .ok (.lastore, 1) := by decide +kernel
theorem dX3_equateInputs_30 : decode cX3_equateInputs 30 = .ok (.return_, 1) := by decide +kernel
theorem dX3_eliminate_0 : decode cX3_eliminate 0 = .ok (.lconst 1, 1) := by decide +kernel
theorem dX3_eliminate_1 : decode cX3_eliminate 1 = .ok (.lstore_n 1, 1) := by decide +kernel
theorem dX3_eliminate_2 : decode cX3_eliminate 2 = .ok (.iconst 0, 1) := by decide +kernel
theorem dX3_eliminate_3 : decode cX3_eliminate 3 = .ok (.istore_n 3, 1) := by decide +kernel
theorem dX3_eliminate_4 : decode cX3_eliminate 4 = .ok (.iload_n 3, 1) := by decide +kernel
theorem dX3_eliminate_5 : decode cX3_eliminate 5 = .ok (.bipush 7, 2) := by decide +kernel
theorem dX3_eliminate_7 : decode cX3_eliminate 7 = .ok (.if_icmp .ge 34, 3) := by decide +kernel
theorem dX3_eliminate_10 : decode cX3_eliminate 10 = .ok (.aload_n 0, 1) := by decide +kernel
theorem dX3_eliminate_11 : decode cX3_eliminate 11 = .ok (.iload_n 3, 1) := by decide +kernel
theorem dX3_eliminate_12 : decode cX3_eliminate 12 = .ok (.invokevirtual 91, 3) := by decide +kernel
theorem dX3_eliminate_15 : decode cX3_eliminate 15 = .ok (.ifCond .ne 5, 3) := by decide +kernel
theorem dX3_eliminate_18 : decode cX3_eliminate 18 = .ok (.lconst 0, 1) := by decide +kernel
theorem dX3_eliminate_19 : decode cX3_eliminate 19 = .ok (.lreturn, 1) := by decide +kernel
theorem dX3_eliminate_20 : decode cX3_eliminate 20 = .ok (.aload_n 0, 1) := by decide +kernel
theorem dX3_eliminate_21 : decode cX3_eliminate 21 = .ok (.iload_n 3, 1) := by decide +kernel
theorem dX3_eliminate_22 : decode cX3_eliminate 22 = .ok (.lload_n 1, 1) := by decide +kernel
theorem dX3_eliminate_23 : decode cX3_eliminate 23 = .ok (.invokevirtual 95, 3) := by decide +kernel
theorem dX3_eliminate_26 : decode cX3_eliminate 26 = .ok (.aload_n 0, 1) := by decide +kernel
theorem dX3_eliminate_27 : decode cX3_eliminate 27 = .ok (.getfield 20, 3) := by decide +kernel
theorem dX3_eliminate_30 : decode cX3_eliminate 30 = .ok (.iload_n 3, 1) := by decide +kernel
theorem dX3_eliminate_31 : decode cX3_eliminate 31 = .ok (.aaload, 1) := by decide +kernel
theorem dX3_eliminate_32 : decode cX3_eliminate 32 = .ok (.iload_n 3, 1) := by decide +kernel
theorem dX3_eliminate_33 : decode cX3_eliminate 33 = .ok (.laload, 1) := by decide +kernel
theorem dX3_eliminate_34 : decode cX3_eliminate 34 = .ok (.lstore_n 1, 1) := by decide +kernel
theorem dX3_eliminate_35 : decode cX3_eliminate 35 = .ok (.iinc 3 1, 3) := by decide +kernel
theorem dX3_eliminate_38 : decode cX3_eliminate 38 = .ok (.goto (-34), 3) := by decide +kernel
theorem dX3_eliminate_41 : decode cX3_eliminate 41 = .ok (.lload_n 1, 1) := by decide +kernel
theorem dX3_eliminate_42 : decode cX3_eliminate 42 = .ok (.lreturn, 1) := by decide +kernel
theorem dX3_bringPivot_0 : decode cX3_bringPivot 0 = .ok (.iload_n 1, 1) := by decide +kernel
theorem dX3_bringPivot_1 : decode cX3_bringPivot 1 = .ok (.istore_n 2, 1) := by decide +kernel
theorem dX3_bringPivot_2 : decode cX3_bringPivot 2 = .ok (.iload_n 2, 1) := by decide +kernel
theorem dX3_bringPivot_3 : decode cX3_bringPivot 3 = .ok (.bipush 7, 2) := by decide +kernel
theorem dX3_bringPivot_5 : decode cX3_bringPivot 5 = .ok (.if_icmp .ge 50, 3) := by decide +kernel
theorem dX3_bringPivot_8 : decode cX3_bringPivot 8 = .ok (.aload_n 0, 1) := by decide +kernel
theorem dX3_bringPivot_9 : decode cX3_bringPivot 9 = .ok (.getfield 20, 3) := by decide +kernel
theorem dX3_bringPivot_12 : decode cX3_bringPivot 12 = .ok (.iload_n 2, 1) := by decide +kernel
theorem dX3_bringPivot_13 : decode cX3_bringPivot 13 = .ok (.aaload, 1) := by decide +kernel
theorem dX3_bringPivot_14 : decode cX3_bringPivot 14 = .ok (.iload_n 1, 1) := by decide +kernel
theorem dX3_bringPivot_15 : decode cX3_bringPivot 15 = .ok (.laload, 1) := by decide +kernel
theorem dX3_bringPivot_16 : decode cX3_bringPivot 16 = .ok (.lconst 0, 1) := by decide +kernel
theorem dX3_bringPivot_17 : decode cX3_bringPivot 17 = .ok (.lcmp, 1) := by decide +kernel
theorem dX3_bringPivot_18 : decode cX3_bringPivot 18 = .ok (.ifCond .eq 31, 3) := by decide +kernel
theorem dX3_bringPivot_21 : decode cX3_bringPivot 21 = .ok (.aload_n 0, 1) := by decide +kernel
theorem dX3_bringPivot_22 : decode cX3_bringPivot 22 = .ok (.getfield 20, 3) := by decide +kernel
theorem dX3_bringPivot_25 : decode cX3_bringPivot 25 = .ok (.iload_n 2, 1) := by decide +kernel
theorem dX3_bringPivot_26 : decode cX3_bringPivot 26 = .ok (.aaload, 1) := by decide +kernel
theorem dX3_bringPivot_27 : decode cX3_bringPivot 27 = .ok (.astore_n 3, 1) := by decide +kernel
theorem dX3_bringPivot_28 : decode cX3_bringPivot 28 = .ok (.aload_n 0, 1) := by decide +kernel
theorem dX3_bringPivot_29 : decode cX3_bringPivot 29 = .ok (.getfield 20, 3) := by decide +kernel
theorem dX3_bringPivot_32 : decode cX3_bringPivot 32 = .ok (.iload_n 2, 1) := by decide +kernel
theorem dX3_bringPivot_33 : decode cX3_bringPivot 33 = .ok (.aload_n 0, 1) := by decide +kernel
theorem dX3_bringPivot_34 : decode cX3_bringPivot 34 = .ok (.getfield 20, 3) := by decide +kernel
theorem dX3_bringPivot_37 : decode cX3_bringPivot 37 = .ok (.iload_n 1, 1) := by decide +kernel
theorem dX3_bringPivot_38 : decode cX3_bringPivot 38 = .ok (.aaload, 1) := by decide +kernel
theorem dX3_bringPivot_39 : decode cX3_bringPivot 39 = .ok (.aastore, 1) := by decide +kernel
theorem dX3_bringPivot_40 : decode cX3_bringPivot 40 = .ok (.aload_n 0, 1) := by decide +kernel
theorem dX3_bringPivot_41 : decode cX3_bringPivot 41 = .ok (.getfield 20, 3) := by decide +kernel
theorem dX3_bringPivot_44 : decode cX3_bringPivot 44 = .ok (.iload_n 1, 1) := by decide +kernel
theorem dX3_bringPivot_45 : decode cX3_bringPivot 45 = .ok (.aload_n 3, 1) := by decide +kernel
theorem dX3_bringPivot_46 : decode cX3_bringPivot 46 = .ok (.aastore, 1) := by decide +kernel
theorem dX3_bringPivot_47 : decode cX3_bringPivot 47 = .ok (.iconst 1, 1) := by decide +kernel
theorem dX3_bringPivot_48 : decode cX3_bringPivot 48 = .ok (.ireturn, 1) := by decide +kernel
theorem dX3_bringPivot_49 : decode cX3_bringPivot 49 = .ok (.iinc 2 1, 3) := by decide +kernel
theorem dX3_bringPivot_52 : decode cX3_bringPivot 52 = .ok (.goto (-50), 3) := by decide +kernel
theorem dX3_bringPivot_55 : decode cX3_bringPivot 55 = .ok (.iconst 0, 1) := by decide +kernel
theorem dX3_bringPivot_56 : decode cX3_bringPivot 56 = .ok (.ireturn, 1) := by decide +kernel
theorem dX3_clearColumn_0 : decode cX3_clearColumn 0 = .ok (.lload_n 2, 1) := by decide +kernel
theorem dX3_clearColumn_1 : decode cX3_clearColumn 1 = .ok (.lconst 0, 1) := by decide +kernel
theorem dX3_clearColumn_2 : decode cX3_clearColumn 2 = .ok (.lcmp, 1) := by decide +kernel
theorem dX3_clearColumn_3 : decode cX3_clearColumn 3 = .ok (.ifCond .ne 4, 3) := by decide +kernel
theorem dX3_clearColumn_6 : decode cX3_clearColumn 6 = .ok (.return_, 1) := by decide +kernel
theorem dX3_clearColumn_7 : decode cX3_clearColumn 7 = .ok (.aload_n 0, 1) := by decide +kernel
theorem dX3_clearColumn_8 : decode cX3_clearColumn 8 = .ok (.getfield 20, 3) := by decide +kernel
theorem dX3_clearColumn_11 : decode cX3_clearColumn 11 = .ok (.iload_n 1, 1) := by decide +kernel
theorem dX3_clearColumn_12 : decode cX3_clearColumn 12 = .ok (.aaload, 1) := by decide +kernel
theorem dX3_clearColumn_13 : decode cX3_clearColumn 13 = .ok (.astore 4, 2) := by decide +kernel
theorem dX3_clearColumn_15 : decode cX3_clearColumn 15 = .ok (.aload 4, 2) := by decide +kernel
theorem dX3_clearColumn_17 : decode cX3_clearColumn 17 = .ok (.iload_n 1, 1) := by decide +kernel
theorem dX3_clearColumn_18 : decode cX3_clearColumn 18 = .ok (.laload, 1) := by decide +kernel
theorem dX3_clearColumn_19 : decode cX3_clearColumn 19 = .ok (.lstore 5, 2) := by decide +kernel
theorem dX3_clearColumn_21 : decode cX3_clearColumn 21 = .ok (.iconst 0, 1) := by decide +kernel
theorem dX3_clearColumn_22 : decode cX3_clearColumn 22 = .ok (.istore 7, 2) := by decide +kernel
theorem dX3_clearColumn_24 : decode cX3_clearColumn 24 = .ok (.iload 7, 2) := by decide +kernel
theorem dX3_clearColumn_26 : decode cX3_clearColumn 26 = .ok (.bipush 7, 2) := by decide +kernel
theorem dX3_clearColumn_28 : decode cX3_clearColumn 28 = .ok (.if_icmp .ge 70, 3) := by decide +kernel
theorem dX3_clearColumn_31 : decode cX3_clearColumn 31 = .ok (.iload 7, 2) := by decide +kernel
theorem dX3_clearColumn_33 : decode cX3_clearColumn 33 = .ok (.iload_n 1, 1) := by decide +kernel
theorem dX3_clearColumn_34 : decode cX3_clearColumn 34 = .ok (.if_icmp .eq 58, 3) := by decide +kernel
theorem dX3_clearColumn_37 : decode cX3_clearColumn 37 = .ok (.aload_n 0, 1) := by decide +kernel
theorem dX3_clearColumn_38 : decode cX3_clearColumn 38 = .ok (.getfield 20, 3) := by decide +kernel
theorem dX3_clearColumn_41 : decode cX3_clearColumn 41 = .ok (.iload 7, 2) := by decide +kernel
theorem dX3_clearColumn_43 : decode cX3_clearColumn 43 = .ok (.aaload, 1) := by decide +kernel
theorem dX3_clearColumn_44 : decode cX3_clearColumn 44 = .ok (.astore 8, 2) := by decide +kernel
theorem dX3_clearColumn_46 : decode cX3_clearColumn 46 = .ok (.aload 8, 2) := by decide +kernel
theorem dX3_clearColumn_48 : decode cX3_clearColumn 48 = .ok (.iload_n 1, 1) := by decide +kernel
theorem dX3_clearColumn_49 : decode cX3_clearColumn 49 = .ok (.laload, 1) := by decide +kernel
theorem dX3_clearColumn_50 : decode cX3_clearColumn 50 = .ok (.lstore 9, 2) := by decide +kernel
theorem dX3_clearColumn_52 : decode cX3_clearColumn 52 = .ok (.iconst 0, 1) := by decide +kernel
theorem dX3_clearColumn_53 : decode cX3_clearColumn 53 = .ok (.istore 11, 2) := by decide +kernel
theorem dX3_clearColumn_55 : decode cX3_clearColumn 55 = .ok (.iload 11, 2) := by decide +kernel
theorem dX3_clearColumn_57 : decode cX3_clearColumn 57 = .ok (.bipush 14, 2) := by decide +kernel
theorem dX3_clearColumn_59 : decode cX3_clearColumn 59 = .ok (.if_icmp .ge 33, 3) := by decide +kernel
theorem dX3_clearColumn_62 : decode cX3_clearColumn 62 = .ok (.aload 8, 2) := by decide +kernel
theorem dX3_clearColumn_64 : decode cX3_clearColumn 64 = .ok (.iload 11, 2) := by decide +kernel
theorem dX3_clearColumn_66 : decode cX3_clearColumn 66 = .ok (.lload 5, 2) := by decide +kernel
theorem dX3_clearColumn_68 : decode cX3_clearColumn 68 = .ok (.aload 8, 2) := by decide +kernel
theorem dX3_clearColumn_70 : decode cX3_clearColumn 70 = .ok (.iload 11, 2) := by decide +kernel
theorem dX3_clearColumn_72 : decode cX3_clearColumn 72 = .ok (.laload, 1) := by decide +kernel
theorem dX3_clearColumn_73 : decode cX3_clearColumn 73 = .ok (.lmul, 1) := by decide +kernel
theorem dX3_clearColumn_74 : decode cX3_clearColumn 74 = .ok (.lload 9, 2) := by decide +kernel
theorem dX3_clearColumn_76 : decode cX3_clearColumn 76 = .ok (.aload 4, 2) := by decide +kernel
theorem dX3_clearColumn_78 : decode cX3_clearColumn 78 = .ok (.iload 11, 2) := by decide +kernel
theorem dX3_clearColumn_80 : decode cX3_clearColumn 80 = .ok (.laload, 1) := by decide +kernel
theorem dX3_clearColumn_81 : decode cX3_clearColumn 81 = .ok (.lmul, 1) := by decide +kernel
theorem dX3_clearColumn_82 : decode cX3_clearColumn 82 = .ok (.lsub, 1) := by decide +kernel
theorem dX3_clearColumn_83 : decode cX3_clearColumn 83 = .ok (.lload_n 2, 1) := by decide +kernel
theorem dX3_clearColumn_84 : decode cX3_clearColumn 84 = .ok (.ldiv, 1) := by decide +kernel
theorem dX3_clearColumn_85 : decode cX3_clearColumn 85 = .ok (.lastore, 1) := by decide +kernel
theorem dX3_clearColumn_86 : decode cX3_clearColumn 86 = .ok (.iinc 11 1, 3) := by decide +kernel
theorem dX3_clearColumn_89 : decode cX3_clearColumn 89 = .ok (.goto (-34), 3) := by decide +kernel
theorem dX3_clearColumn_92 : decode cX3_clearColumn 92 = .ok (.iinc 7 1, 3) := by decide +kernel
theorem dX3_clearColumn_95 : decode cX3_clearColumn 95 = .ok (.goto (-71), 3) := by decide +kernel
theorem dX3_clearColumn_98 : decode cX3_clearColumn 98 = .ok (.return_, 1) := by decide +kernel
theorem dX3_copyAnswers_0 : decode cX3_copyAnswers 0 = .ok (.iconst 0, 1) := by decide +kernel
theorem dX3_copyAnswers_1 : decode cX3_copyAnswers 1 = .ok (.istore_n 3, 1) := by decide +kernel
theorem dX3_copyAnswers_2 : decode cX3_copyAnswers 2 = .ok (.iload_n 3, 1) := by decide +kernel
theorem dX3_copyAnswers_3 : decode cX3_copyAnswers 3 = .ok (.bipush 7, 2) := by decide +kernel
theorem dX3_copyAnswers_5 : decode cX3_copyAnswers 5 = .ok (.if_icmp .ge 49, 3) := by decide +kernel
theorem dX3_copyAnswers_8 : decode cX3_copyAnswers 8 = .ok (.iconst 0, 1) := by decide +kernel
theorem dX3_copyAnswers_9 : decode cX3_copyAnswers 9 = .ok (.istore 4, 2) := by decide +kernel
theorem dX3_copyAnswers_11 : decode cX3_copyAnswers 11 = .ok (.iload 4, 2) := by decide +kernel
theorem dX3_copyAnswers_13 : decode cX3_copyAnswers 13 = .ok (.bipush 7, 2) := by decide +kernel
theorem dX3_copyAnswers_15 : decode cX3_copyAnswers 15 = .ok (.if_icmp .ge 33, 3) := by decide +kernel
theorem dX3_copyAnswers_18 : decode cX3_copyAnswers 18 = .ok (.aload_n 1, 1) := by decide +kernel
theorem dX3_copyAnswers_19 : decode cX3_copyAnswers 19 = .ok (.bipush 7, 2) := by decide +kernel
theorem dX3_copyAnswers_21 : decode cX3_copyAnswers 21 = .ok (.iload_n 3, 1) := by decide +kernel
theorem dX3_copyAnswers_22 : decode cX3_copyAnswers 22 = .ok (.imul, 1) := by decide +kernel
theorem dX3_copyAnswers_23 : decode cX3_copyAnswers 23 = .ok (.iload 4, 2) := by decide +kernel
theorem dX3_copyAnswers_25 : decode cX3_copyAnswers 25 = .ok (.iadd, 1) := by decide +kernel
theorem dX3_copyAnswers_26 : decode cX3_copyAnswers 26 = .ok (.iload_n 2, 1) := by decide +kernel
theorem dX3_copyAnswers_27 : decode cX3_copyAnswers 27 = .ok (.i2l, 1) := by decide +kernel
theorem dX3_copyAnswers_28 : decode cX3_copyAnswers 28 = .ok (.aload_n 0, 1) := by decide +kernel
theorem dX3_copyAnswers_29 : decode cX3_copyAnswers 29 = .ok (.getfield 20, 3) := by decide +kernel
theorem dX3_copyAnswers_32 : decode cX3_copyAnswers 32 = .ok (.iload_n 3, 1) := by decide +kernel
theorem dX3_copyAnswers_33 : decode cX3_copyAnswers 33 = .ok (.aaload, 1) := by decide +kernel
theorem dX3_copyAnswers_34 : decode cX3_copyAnswers 34 = .ok (.bipush 7, 2) := by decide +kernel
theorem dX3_copyAnswers_36 : decode cX3_copyAnswers 36 = .ok (.iload 4, 2) := by decide +kernel
theorem dX3_copyAnswers_38 : decode cX3_copyAnswers 38 = .ok (.iadd, 1) := by decide +kernel
theorem dX3_copyAnswers_39 : decode cX3_copyAnswers 39 = .ok (.laload, 1) := by decide +kernel
theorem dX3_copyAnswers_40 : decode cX3_copyAnswers 40 = .ok (.lmul, 1) := by decide +kernel
theorem dX3_copyAnswers_41 : decode cX3_copyAnswers 41 = .ok (.lastore, 1) := by decide +kernel
theorem dX3_copyAnswers_42 : decode cX3_copyAnswers 42 = .ok (.iinc 4 1, 3) := by decide +kernel
theorem dX3_copyAnswers_45 : decode cX3_copyAnswers 45 = .ok (.goto (-34), 3) := by decide +kernel
theorem dX3_copyAnswers_48 : decode cX3_copyAnswers 48 = .ok (.iinc 3 1, 3) := by decide +kernel
theorem dX3_copyAnswers_51 : decode cX3_copyAnswers 51 = .ok (.goto (-49), 3) := by decide +kernel
theorem dX3_copyAnswers_54 : decode cX3_copyAnswers 54 = .ok (.return_, 1) := by decide +kernel
theorem dX4_init_0 : decode cX4_init 0 = .ok (.aload_n 0, 1) := by decide +kernel
theorem dX4_init_1 : decode cX4_init 1 = .ok (.invokespecial 3, 3) := by decide +kernel
theorem dX4_init_4 : decode cX4_init 4 = .ok (.aload_n 0, 1) := by decide +kernel
theorem dX4_init_5 : decode cX4_init 5 = .ok (.new 9, 3) := by decide +kernel
theorem dX4_init_8 : decode cX4_init 8 = .ok (.dup, 1) := by decide +kernel
theorem dX4_init_9 : decode cX4_init 9 = .ok (.bipush 12, 2) := by decide +kernel
theorem dX4_init_11 : decode cX4_init 11 = .ok (.invokespecial 11, 3) := by decide +kernel
theorem dX4_init_14 : decode cX4_init 14 = .ok (.putfield 14, 3) := by decide +kernel
theorem dX4_init_17 : decode cX4_init 17 = .ok (.aload_n 0, 1) := by decide +kernel
theorem dX4_init_18 : decode cX4_init 18 = .ok (.sipush 150, 3) := by decide +kernel
theorem dX4_init_21 : decode cX4_init 21 = .ok (.putfield 20, 3) := by decide +kernel
theorem dX4_init_24 : decode cX4_init 24 = .ok (.aload_n 0, 1) := by decide +kernel
theorem dX4_init_25 : decode cX4_init 25 = .ok (.iconst 1, 1) := by decide +kernel
theorem dX4_init_26 : decode cX4_init 26 = .ok (.putfield 24, 3) := by decide +kernel
theorem dX4_init_29 : decode cX4_init 29 = .ok (.return_, 1) := by decide +kernel
theorem dX4_copyFrom_0 : decode cX4_copyFrom 0 = .ok (.aload_n 0, 1) := by decide +kernel
theorem dX4_copyFrom_1 : decode cX4_copyFrom 1 = .ok (.getfield 14, 3) := by decide +kernel
theorem dX4_copyFrom_4 : decode cX4_copyFrom 4 = .ok (.aload_n 1, 1) := by decide +kernel
theorem dX4_copyFrom_5 : decode cX4_copyFrom 5 = .ok (.getfield 14, 3) := by decide +kernel
theorem dX4_copyFrom_8 : decode cX4_copyFrom 8 = .ok (.invokevirtual 28, 3) := by decide +kernel
theorem dX4_copyFrom_11 : decode cX4_copyFrom 11 = .ok (.aload_n 0, 1) := by decide +kernel
theorem dX4_copyFrom_12 : decode cX4_copyFrom 12 = .ok (.aload_n 1, 1) := by decide +kernel
theorem dX4_copyFrom_13 : decode cX4_copyFrom 13 = .ok (.getfield 20, 3) := by decide +kernel
theorem dX4_copyFrom_16 : decode cX4_copyFrom 16 = .ok (.putfield 20, 3) := by decide +kernel
theorem dX4_copyFrom_19 : decode cX4_copyFrom 19 = .ok (.aload_n 0, 1) := by decide +kernel
theorem dX4_copyFrom_20 : decode cX4_copyFrom 20 = .ok (.aload_n 1, 1) := by decide +kernel
theorem dX4_copyFrom_21 : decode cX4_copyFrom 21 = .ok (.getfield 32, 3) := by decide +kernel
theorem dX4_copyFrom_24 : decode cX4_copyFrom 24 = .ok (.putfield 32, 3) := by decide +kernel
theorem dX4_copyFrom_27 : decode cX4_copyFrom 27 = .ok (.aload_n 0, 1) := by decide +kernel
theorem dX4_copyFrom_28 : decode cX4_copyFrom 28 = .ok (.aload_n 1, 1) := by decide +kernel
theorem dX4_copyFrom_29 : decode cX4_copyFrom 29 = .ok (.getfield 24, 3) := by decide +kernel
theorem dX4_copyFrom_32 : decode cX4_copyFrom 32 = .ok (.putfield 24, 3) := by decide +kernel
theorem dX4_copyFrom_35 : decode cX4_copyFrom 35 = .ok (.return_, 1) := by decide +kernel
theorem dX4_empty_0 : decode cX4_empty 0 = .ok (.aload_n 0, 1) := by decide +kernel
theorem dX4_empty_1 : decode cX4_empty 1 = .ok (.getfield 14, 3) := by decide +kernel
theorem dX4_empty_4 : decode cX4_empty 4 = .ok (.iconst 0, 1) := by decide +kernel
theorem dX4_empty_5 : decode cX4_empty 5 = .ok (.putfield 35, 3) := by decide +kernel
theorem dX4_empty_8 : decode cX4_empty 8 = .ok (.aload_n 0, 1) := by decide +kernel
theorem dX4_empty_9 : decode cX4_empty 9 = .ok (.sipush 150, 3) := by decide +kernel
theorem dX4_empty_12 : decode cX4_empty 12 = .ok (.putfield 20, 3) := by decide +kernel
theorem dX4_empty_15 : decode cX4_empty 15 = .ok (.aload_n 0, 1) := by decide +kernel
theorem dX4_empty_16 : decode cX4_empty 16 = .ok (.iconst 0, 1) := by decide +kernel
theorem dX4_empty_17 : decode cX4_empty 17 = .ok (.putfield 32, 3) := by decide +kernel
theorem dX4_empty_20 : decode cX4_empty 20 = .ok (.return_, 1) := by decide +kernel
theorem dX4_remove_0 : decode cX4_remove 0 = .ok (.aload_n 0, 1) := by decide +kernel
theorem dX4_remove_1 : decode cX4_remove 1 = .ok (.getfield 14, 3) := by decide +kernel
theorem dX4_remove_4 : decode cX4_remove 4 = .ok (.getfield 38, 3) := by decide +kernel
theorem dX4_remove_7 : decode cX4_remove 7 = .ok (.iload_n 1, 1) := by decide +kernel
theorem dX4_remove_8 : decode cX4_remove 8 = .ok (.iaload, 1) := by decide +kernel
theorem dX4_remove_9 : decode cX4_remove 9 = .ok (.iconst 2, 1) := by decide +kernel
theorem dX4_remove_10 : decode cX4_remove 10 = .ok (.if_icmp .ne 37, 3) := by decide +kernel
theorem dX4_remove_13 : decode cX4_remove 13 = .ok (.getstatic 42, 3) := by decide +kernel
theorem dX4_remove_16 : decode cX4_remove 16 = .ok (.aload_n 0, 1) := by decide +kernel
theorem dX4_remove_17 : decode cX4_remove 17 = .ok (.getfield 14, 3) := by decide +kernel
theorem dX4_remove_20 : decode cX4_remove 20 = .ok (.iload_n 1, 1) := by decide +kernel
theorem dX4_remove_21 : decode cX4_remove 21 = .ok (.invokevirtual 45, 3) := by decide +kernel
theorem dX4_remove_24 : decode cX4_remove 24 = .ok (.iaload, 1) := by decide +kernel
theorem dX4_remove_25 : decode cX4_remove 25 = .ok (.istore_n 2, 1) := by decide +kernel
theorem dX4_remove_26 : decode cX4_remove 26 = .ok (.aload_n 0, 1) := by decide +kernel
theorem dX4_remove_27 : decode cX4_remove 27 = .ok (.aload_n 0, 1) := by decide +kernel
theorem dX4_remove_28 : decode cX4_remove 28 = .ok (.getfield 32, 3) := by decide +kernel
theorem dX4_remove_31 : decode cX4_remove 31 = .ok (.iconst 3, 1) := by decide +kernel
theorem dX4_remove_32 : decode cX4_remove 32 = .ok (.iload_n 2, 1) := by decide +kernel
theorem dX4_remove_33 : decode cX4_remove 33 = .ok (.imul, 1) := by decide +kernel
theorem dX4_remove_34 : decode cX4_remove 34 = .ok (.idiv, 1) := by decide +kernel
theorem dX4_remove_35 : decode cX4_remove 35 = .ok (.iload_n 2, 1) := by decide +kernel
theorem dX4_remove_36 : decode cX4_remove 36 = .ok (.imul, 1) := by decide +kernel
theorem dX4_remove_37 : decode cX4_remove 37 = .ok (.aload_n 0, 1) := by decide +kernel
theorem dX4_remove_38 : decode cX4_remove 38 = .ok (.getfield 32, 3) := by decide +kernel
theorem dX4_remove_41 : decode cX4_remove 41 = .ok (.iload_n 2, 1) := by decide +kernel
theorem dX4_remove_42 : decode cX4_remove 42 = .ok (.irem, 1) := by decide +kernel
theorem dX4_remove_43 : decode cX4_remove 43 = .ok (.iadd, 1) := by decide +kernel
theorem dX4_remove_44 : decode cX4_remove 44 = .ok (.putfield 32, 3) := by decide +kernel
theorem dX4_remove_47 : decode cX4_remove 47 = .ok (.aload_n 0, 1) := by decide +kernel
theorem dX4_remove_48 : decode cX4_remove 48 = .ok (.getfield 14, 3) := by decide +kernel
theorem dX4_remove_51 : decode cX4_remove 51 = .ok (.iload_n 1, 1) := by decide +kernel
theorem dX4_remove_52 : decode cX4_remove 52 = .ok (.invokevirtual 49, 3) := by decide +kernel
theorem dX4_remove_55 : decode cX4_remove 55 = .ok (.return_, 1) := by decide +kernel
theorem dX5_init_0 : decode cX5_init 0 = .ok (.aload_n 0, 1) := by decide +kernel
theorem dX5_init_1 : decode cX5_init 1 = .ok (.invokespecial 3, 3) := by decide +kernel
theorem dX5_init_4 : decode cX5_init 4 = .ok (.aload_n 0, 1) := by decide +kernel
theorem dX5_init_5 : decode cX5_init 5 = .ok (.bipush 60, 2) := by decide +kernel
theorem dX5_init_7 : decode cX5_init 7 = .ok (.newarray .char, 2) := by decide +kernel
theorem dX5_init_9 : decode cX5_init 9 = .ok (.putfield 9, 3) := by decide +kernel
theorem dX5_init_12 : decode cX5_init 12 = .ok (.aload_n 0, 1) := by decide +kernel
theorem dX5_init_13 : decode cX5_init 13 = .ok (.new 15, 3) := by decide +kernel
theorem dX5_init_16 : decode cX5_init 16 = .ok (.dup, 1) := by decide +kernel
theorem dX5_init_17 : decode cX5_init 17 = .ok (.bipush 15, 2) := by decide +kernel
theorem dX5_init_19 : decode cX5_init 19 = .ok (.invokespecial 17, 3) := by decide +kernel
theorem dX5_init_22 : decode cX5_init 22 = .ok (.putfield 20, 3) := by decide +kernel
theorem dX5_init_25 : decode cX5_init 25 = .ok (.aload_n 0, 1) := by decide +kernel
theorem dX5_init_26 : decode cX5_init 26 = .ok (.iconst 3, 1) := by decide +kernel
theorem dX5_init_27 : decode cX5_init 27 = .ok (.newarray .int, 2) := by decide +kernel
theorem dX5_init_29 : decode cX5_init 29 = .ok (.putfield 24, 3) := by decide +kernel
theorem dX5_init_32 : decode cX5_init 32 = .ok (.return_, 1) := by decide +kernel
theorem dX5_read_0 : decode cX5_read 0 = .ok (.aload_n 0, 1) := by decide +kernel
theorem dX5_read_1 : decode cX5_read 1 = .ok (.getfield 20, 3) := by decide +kernel
theorem dX5_read_4 : decode cX5_read 4 = .ok (.iconst 0, 1) := by decide +kernel
theorem dX5_read_5 : decode cX5_read 5 = .ok (.putfield 28, 3) := by decide +kernel
theorem dX5_read_8 : decode cX5_read 8 = .ok (.aload_n 0, 1) := by decide +kernel
theorem dX5_read_9 : decode cX5_read 9 = .ok (.iconst (-1), 1) := by decide +kernel
theorem dX5_read_10 : decode cX5_read 10 = .ok (.invokevirtual 32, 3) := by decide +kernel
theorem dX5_read_13 : decode cX5_read 13 = .ok (.iconst 0, 1) := by decide +kernel
theorem dX5_read_14 : decode cX5_read 14 = .ok (.istore_n 1, 1) := by decide +kernel
theorem dX5_read_15 : decode cX5_read 15 = .ok (.iload_n 1, 1) := by decide +kernel
theorem dX5_read_16 : decode cX5_read 16 = .ok (.aload_n 0, 1) := by decide +kernel
theorem dX5_read_17 : decode cX5_read 17 = .ok (.getfield 35, 3) := by decide +kernel
theorem dX5_read_20 : decode cX5_read 20 = .ok (.if_icmp .ge 24, 3) := by decide +kernel
theorem dX5_read_23 : decode cX5_read 23 = .ok (.aload_n 0, 1) := by decide +kernel
theorem dX5_read_24 : decode cX5_read 24 = .ok (.aload_n 0, 1) := by decide +kernel
theorem dX5_read_25 : decode cX5_read 25 = .ok (.getfield 9, 3) := by decide +kernel
theorem dX5_read_28 : decode cX5_read 28 = .ok (.iload_n 1, 1) := by decide +kernel
theorem dX5_read_29 : decode cX5_read 29 = .ok (.caload, 1) := by decide +kernel
theorem dX5_read_30 : decode cX5_read 30 = .ok (.invokevirtual 38, 3) := by decide +kernel
theorem dX5_read_33 : decode cX5_read 33 = .ok (.ifCond .ne 5, 3) := by decide +kernel
theorem dX5_read_36 : decode cX5_read 36 = .ok (.iload_n 1, 1) := by decide +kernel
theorem dX5_read_37 : decode cX5_read 37 = .ok (.ireturn, 1) := by decide +kernel
theorem dX5_read_38 : decode cX5_read 38 = .ok (.iinc 1 1, 3) := by decide +kernel
theorem dX5_read_41 : decode cX5_read 41 = .ok (.goto (-26), 3) := by decide +kernel
theorem dX5_read_44 : decode cX5_read 44 = .ok (.aload_n 0, 1) := by decide +kernel
theorem dX5_read_45 : decode cX5_read 45 = .ok (.getfield 35, 3) := by decide +kernel
theorem dX5_read_48 : decode cX5_read 48 = .ok (.ireturn, 1) := by decide +kernel
theorem dX5_isComplete_0 : decode cX5_isComplete 0 = .ok (.aload_n 0, 1) := by decide +kernel
theorem dX5_isComplete_1 : decode cX5_isComplete 1 = .ok (.invokevirtual 42, 3) := by decide +kernel
theorem dX5_isComplete_4 : decode cX5_isComplete 4 = .ok (.aload_n 0, 1) := by decide +kernel
theorem dX5_isComplete_5 : decode cX5_isComplete 5 = .ok (.getfield 35, 3) := by decide +kernel
theorem dX5_isComplete_8 : decode cX5_isComplete 8 = .ok (.if_icmp .ne 14, 3) := by decide +kernel
theorem dX5_isComplete_11 : decode cX5_isComplete 11 = .ok (.aload_n 0, 1) := by decide +kernel
theorem dX5_isComplete_12 : decode cX5_isComplete 12 = .ok (.invokevirtual 46, 3) := by decide +kernel
theorem dX5_isComplete_15 : decode cX5_isComplete 15 = .ok (.ifCond .eq 7, 3) := by decide +kernel
theorem dX5_isComplete_18 : decode cX5_isComplete 18 = .ok (.iconst 1, 1) := by decide +kernel
theorem dX5_isComplete_19 : decode cX5_isComplete 19 = .ok (.goto 4, 3) := by decide +kernel
theorem dX5_isComplete_22 : decode cX5_isComplete 22 = .ok (.iconst 0, 1) := by decide +kernel
theorem dX5_isComplete_23 : decode cX5_isComplete 23 = .ok (.ireturn, 1) := by decide +kernel
theorem dX5_startPart_0 : decode cX5_startPart 0 = .ok (.aload_n 0, 1) := by decide +kernel
theorem dX5_startPart_1 : decode cX5_startPart 1 = .ok (.iload_n 1, 1) := by decide +kernel
theorem dX5_startPart_2 : decode cX5_startPart 2 = .ok (.putfield 50, 3) := by decide +kernel
theorem dX5_startPart_5 : decode cX5_startPart 5 = .ok (.aload_n 0, 1) := by decide +kernel
theorem dX5_startPart_6 : decode cX5_startPart 6 = .ok (.iconst 0, 1) := by decide +kernel
theorem dX5_startPart_7 : decode cX5_startPart 7 = .ok (.putfield 53, 3) := by decide +kernel
theorem dX5_startPart_10 : decode cX5_startPart 10 = .ok (.aload_n 0, 1) := by decide +kernel
theorem dX5_startPart_11 : decode cX5_startPart 11 = .ok (.iconst (-1), 1) := by decide +kernel
theorem dX5_startPart_12 : decode cX5_startPart 12 = .ok (.putfield 56, 3) := by decide +kernel
theorem dX5_startPart_15 : decode cX5_startPart 15 = .ok (.aload_n 0, 1) := by decide +kernel
theorem dX5_startPart_16 : decode cX5_startPart 16 = .ok (.iconst 0, 1) := by decide +kernel
theorem dX5_startPart_17 : decode cX5_startPart 17 = .ok (.putfield 59, 3) := by decide +kernel
theorem dX5_startPart_20 : decode cX5_startPart 20 = .ok (.aload_n 0, 1) := by decide +kernel
theorem dX5_startPart_21 : decode cX5_startPart 21 = .ok (.iconst 0, 1) := by decide +kernel
theorem dX5_startPart_22 : decode cX5_startPart 22 = .ok (.putfield 63, 3) := by decide +kernel
theorem dX5_startPart_25 : decode cX5_startPart 25 = .ok (.return_, 1) := by decide +kernel
theorem dX5_accepts_0 : decode cX5_accepts 0 = .ok (.aload_n 0, 1) := by decide +kernel
theorem dX5_accepts_1 : decode cX5_accepts 1 = .ok (.getfield 50, 3) := by decide +kernel
theorem dX5_accepts_4 : decode cX5_accepts 4 = .ok (.iconst (-1), 1) := by decide +kernel
theorem dX5_accepts_5 : decode cX5_accepts 5 = .ok (.if_icmp .ne 9, 3) := by decide +kernel
theorem dX5_accepts_8 : decode cX5_accepts 8 = .ok (.aload_n 0, 1) := by decide +kernel
theorem dX5_accepts_9 : decode cX5_accepts 9 = .ok (.iload_n 1, 1) := by decide +kernel
theorem dX5_accepts_10 : decode cX5_accepts 10 = .ok (.invokevirtual 66, 3) := by decide +kernel
theorem dX5_accepts_13 : decode cX5_accepts 13 = .ok (.ireturn, 1) := by decide +kernel
theorem dX5_accepts_14 : decode cX5_accepts 14 = .ok (.iload_n 1, 1) := by decide +kernel
theorem dX5_accepts_15 : decode cX5_accepts 15 = .ok (.bipush 59, 2) := by decide +kernel
theorem dX5_accepts_17 : decode cX5_accepts 17 = .ok (.if_icmp .ne 15, 3) := by decide +kernel
theorem dX5_accepts_20 : decode cX5_accepts 20 = .ok (.aload_n 0, 1) := by decide +kernel
theorem dX5_accepts_21 : decode cX5_accepts 21 = .ok (.invokevirtual 46, 3) := by decide +kernel
theorem dX5_accepts_24 : decode cX5_accepts 24 = .ok (.istore_n 2, 1) := by decide +kernel
theorem dX5_accepts_25 : decode cX5_accepts 25 = .ok (.aload_n 0, 1) := by decide +kernel
theorem dX5_accepts_26 : decode cX5_accepts 26 = .ok (.iconst (-1), 1) := by decide +kernel
theorem dX5_accepts_27 : decode cX5_accepts 27 = .ok (.invokevirtual 32, 3) := by decide +kernel
theorem dX5_accepts_30 : decode cX5_accepts 30 = .ok (.iload_n 2, 1) := by decide +kernel
theorem dX5_accepts_31 : decode cX5_accepts 31 = .ok (.ireturn, 1) := by decide +kernel
theorem dX5_accepts_32 : decode cX5_accepts 32 = .ok (.aload_n 0, 1) := by decide +kernel
theorem dX5_accepts_33 : decode cX5_accepts 33 = .ok (.getfield 50, 3) := by decide +kernel
theorem dX5_accepts_36 : decode cX5_accepts 36 = .ok (.iconst 1, 1) := by decide +kernel
theorem dX5_accepts_37 : decode cX5_accepts 37 = .ok (.if_icmp .ne 11, 3) := by decide +kernel
theorem dX5_accepts_40 : decode cX5_accepts 40 = .ok (.aload_n 0, 1) := by decide +kernel
theorem dX5_accepts_41 : decode cX5_accepts 41 = .ok (.iload_n 1, 1) := by decide +kernel
theorem dX5_accepts_42 : decode cX5_accepts 42 = .ok (.invokevirtual 69, 3) := by decide +kernel
theorem dX5_accepts_45 : decode cX5_accepts 45 = .ok (.goto 8, 3) := by decide +kernel
theorem dX5_accepts_48 : decode cX5_accepts 48 = .ok (.aload_n 0, 1) := by decide +kernel
theorem dX5_accepts_49 : decode cX5_accepts 49 = .ok (.iload_n 1, 1) := by decide +kernel
theorem dX5_accepts_50 : decode cX5_accepts 50 = .ok (.invokevirtual 72, 3) := by decide +kernel
theorem dX5_accepts_53 : decode cX5_accepts 53 = .ok (.ireturn, 1) := by decide +kernel
theorem dX5_acceptsLetter_0 : decode cX5_acceptsLetter 0 = .ok (.iload_n 1, 1) := by decide +kernel
theorem dX5_acceptsLetter_1 : decode cX5_acceptsLetter 1 = .ok (.invokestatic 75, 3) := by decide +kernel
theorem dX5_acceptsLetter_4 : decode cX5_acceptsLetter 4 = .ok (.istore_n 2, 1) := by decide +kernel
theorem dX5_acceptsLetter_5 : decode cX5_acceptsLetter 5 = .ok (.aload_n 0, 1) := by decide +kernel
theorem dX5_acceptsLetter_6 : decode cX5_acceptsLetter 6 = .ok (.iload_n 2, 1) := by decide +kernel
theorem dX5_acceptsLetter_7 : decode cX5_acceptsLetter 7 = .ok (.invokevirtual 32, 3) := by decide +kernel
theorem dX5_acceptsLetter_10 : decode cX5_acceptsLetter 10 = .ok (.iload_n 2, 1) := by decide +kernel
theorem dX5_acceptsLetter_11 : decode cX5_acceptsLetter 11 = .ok (.iconst (-1), 1) := by decide +kernel
theorem dX5_acceptsLetter_12 : decode cX5_acceptsLetter 12 = .ok (.if_icmp .eq 7, 3) := by decide +kernel
theorem dX5_acceptsLetter_15 : decode cX5_acceptsLetter 15 = .ok (.iconst 1, 1) := by decide +kernel
theorem dX5_acceptsLetter_16 : decode cX5_acceptsLetter 16 = .ok (.goto 4, 3) := by decide +kernel
theorem dX5_acceptsLetter_19 : decode cX5_acceptsLetter 19 = .ok (.iconst 0, 1) := by decide +kernel
theorem dX5_acceptsLetter_20 : decode cX5_acceptsLetter 20 = .ok (.ireturn, 1) := by decide +kernel
theorem dX5_kindOfLetter_0 : decode cX5_kindOfLetter 0 = .ok (.iload_n 0, 1) := by decide +kernel
theorem dX5_kindOfLetter_1 : decode cX5_kindOfLetter 1 = .ok (.bipush 114, 2) := by decide +kernel
theorem dX5_kindOfLetter_3 : decode cX5_kindOfLetter 3 = .ok (.if_icmp .ne 5, 3) := by decide +kernel
theorem dX5_kindOfLetter_6 : decode cX5_kindOfLetter 6 = .ok (.iconst 0, 1) := by decide +kernel
theorem dX5_kindOfLetter_7 : decode cX5_kindOfLetter 7 = .ok (.ireturn, 1) := by decide +kernel
theorem dX5_kindOfLetter_8 : decode cX5_kindOfLetter 8 = .ok (.iload_n 0, 1) := by decide +kernel
theorem dX5_kindOfLetter_9 : decode cX5_kindOfLetter 9 = .ok (.bipush 115, 2) := by decide +kernel
theorem dX5_kindOfLetter_11 : decode cX5_kindOfLetter 11 = .ok (.if_icmp .ne 5, 3) := by decide +kernel
theorem dX5_kindOfLetter_14 : decode cX5_kindOfLetter 14 = .ok (.iconst 1, 1) := by decide +kernel
theorem dX5_kindOfLetter_15 : decode cX5_kindOfLetter 15 = .ok (.ireturn, 1) := by decide +kernel
theorem dX5_kindOfLetter_16 : decode cX5_kindOfLetter 16 = .ok (.iload_n 0, 1) := by decide +kernel
theorem dX5_kindOfLetter_17 : decode cX5_kindOfLetter 17 = .ok (.bipush 111, 2) := by decide +kernel
theorem dX5_kindOfLetter_19 : decode cX5_kindOfLetter 19 = .ok (.if_icmp .ne 7, 3) := by decide +kernel
theorem dX5_kindOfLetter_22 : decode cX5_kindOfLetter 22 = .ok (.iconst 2, 1) := by decide +kernel
theorem dX5_kindOfLetter_23 : decode cX5_kindOfLetter 23 = .ok (.goto 4, 3) := by decide +kernel
theorem dX5_kindOfLetter_26 : decode cX5_kindOfLetter 26 = .ok (.iconst (-1), 1) := by decide +kernel
theorem dX5_kindOfLetter_27 : decode cX5_kindOfLetter 27 = .ok (.ireturn, 1) := by decide +kernel
theorem dX5_acceptsDigit_0 : decode cX5_acceptsDigit 0 = .ok (.aload_n 0, 1) := by decide +kernel
theorem dX5_acceptsDigit_1 : decode cX5_acceptsDigit 1 = .ok (.getfield 53, 3) := by decide +kernel
theorem dX5_acceptsDigit_4 : decode cX5_acceptsDigit 4 = .ok (.aload_n 0, 1) := by decide +kernel
theorem dX5_acceptsDigit_5 : decode cX5_acceptsDigit 5 = .ok (.getfield 24, 3) := by decide +kernel
theorem dX5_acceptsDigit_8 : decode cX5_acceptsDigit 8 = .ok (.arraylength, 1) := by decide +kernel
theorem dX5_acceptsDigit_9 : decode cX5_acceptsDigit 9 = .ok (.if_icmp .lt 5, 3) := by decide +kernel
theorem dX5_acceptsDigit_12 : decode cX5_acceptsDigit 12 = .ok (.iconst 0, 1) := by decide +kernel
theorem dX5_acceptsDigit_13 : decode cX5_acceptsDigit 13 = .ok (.ireturn, 1) := by decide +kernel
theorem dX5_acceptsDigit_14 : decode cX5_acceptsDigit 14 = .ok (.aload_n 0, 1) := by decide +kernel
theorem dX5_acceptsDigit_15 : decode cX5_acceptsDigit 15 = .ok (.getfield 50, 3) := by decide +kernel
theorem dX5_acceptsDigit_18 : decode cX5_acceptsDigit 18 = .ok (.ifCond .ne 15, 3) := by decide +kernel
theorem dX5_acceptsDigit_21 : decode cX5_acceptsDigit 21 = .ok (.aload_n 0, 1) := by decide +kernel
theorem dX5_acceptsDigit_22 : decode cX5_acceptsDigit 22 = .ok (.getfield 53, 3) := by decide +kernel
theorem dX5_acceptsDigit_25 : decode cX5_acceptsDigit 25 = .ok (.iconst 2, 1) := by decide +kernel
theorem dX5_acceptsDigit_26 : decode cX5_acceptsDigit 26 = .ok (.if_icmp .ne 7, 3) := by decide +kernel
theorem dX5_acceptsDigit_29 : decode cX5_acceptsDigit 29 = .ok (.iconst 1, 1) := by decide +kernel
theorem dX5_acceptsDigit_30 : decode cX5_acceptsDigit 30 = .ok (.goto 4, 3) := by decide +kernel
theorem dX5_acceptsDigit_33 : decode cX5_acceptsDigit 33 = .ok (.iconst 0, 1) := by decide +kernel
theorem dX5_acceptsDigit_34 : decode cX5_acceptsDigit 34 = .ok (.istore_n 2, 1) := by decide +kernel
theorem dX5_acceptsDigit_35 : decode cX5_acceptsDigit 35 = .ok (.iload_n 2, 1) := by decide +kernel
theorem dX5_acceptsDigit_36 : decode cX5_acceptsDigit 36 = .ok (.ifCond .eq 23, 3) := by decide +kernel
theorem dX5_acceptsDigit_39 : decode cX5_acceptsDigit 39 = .ok (.iload_n 1, 1) := by decide +kernel
theorem dX5_acceptsDigit_40 : decode cX5_acceptsDigit 40 = .ok (.bipush 49, 2) := by decide +kernel
theorem dX5_acceptsDigit_42 : decode cX5_acceptsDigit 42 = .ok (.if_icmp .lt 13, 3) := by decide +kernel
theorem dX5_acceptsDigit_45 : decode cX5_acceptsDigit 45 = .ok (.iload_n 1, 1) := by decide +kernel
theorem dX5_acceptsDigit_46 : decode cX5_acceptsDigit 46 = .ok (.bipush 52, 2) := by decide +kernel
theorem dX5_acceptsDigit_48 : decode cX5_acceptsDigit 48 = .ok (.if_icmp .gt 7, 3) := by decide +kernel
theorem dX5_acceptsDigit_51 : decode cX5_acceptsDigit 51 = .ok (.iconst 1, 1) := by decide +kernel
theorem dX5_acceptsDigit_52 : decode cX5_acceptsDigit 52 = .ok (.goto 11, 3) := by decide +kernel
theorem dX5_acceptsDigit_55 : decode cX5_acceptsDigit 55 = .ok (.iconst 0, 1) := by decide +kernel
theorem dX5_acceptsDigit_56 : decode cX5_acceptsDigit 56 = .ok (.goto 7, 3) := by decide +kernel
theorem dX5_acceptsDigit_59 : decode cX5_acceptsDigit 59 = .ok (.iload_n 1, 1) := by decide +kernel
theorem dX5_acceptsDigit_60 : decode cX5_acceptsDigit 60 = .ok (.invokestatic 79, 3) := by decide +kernel
theorem dX5_acceptsDigit_63 : decode cX5_acceptsDigit 63 = .ok (.istore_n 3, 1) := by decide +kernel
theorem dX5_acceptsDigit_64 : decode cX5_acceptsDigit 64 = .ok (.iload_n 3, 1) := by decide +kernel
theorem dX5_acceptsDigit_65 : decode cX5_acceptsDigit 65 = .ok (.ifCond .eq 26, 3) := by decide +kernel
theorem dX5_acceptsDigit_68 : decode cX5_acceptsDigit 68 = .ok (.aload_n 0, 1) := by decide +kernel
theorem dX5_acceptsDigit_69 : decode cX5_acceptsDigit 69 = .ok (.getfield 24, 3) := by decide +kernel
theorem dX5_acceptsDigit_72 : decode cX5_acceptsDigit 72 = .ok (.aload_n 0, 1) := by decide +kernel
theorem dX5_acceptsDigit_73 : decode cX5_acceptsDigit 73 = .ok (.getfield 53, 3) := by decide +kernel
theorem dX5_acceptsDigit_76 : decode cX5_acceptsDigit 76 = .ok (.iload_n 1, 1) := by decide +kernel
theorem dX5_acceptsDigit_77 : decode cX5_acceptsDigit 77 = .ok (.bipush 48, 2) := by decide +kernel
theorem dX5_acceptsDigit_79 : decode cX5_acceptsDigit 79 = .ok (.isub, 1) := by decide +kernel
theorem dX5_acceptsDigit_80 : decode cX5_acceptsDigit 80 = .ok (.iastore, 1) := by decide +kernel
theorem dX5_acceptsDigit_81 : decode cX5_acceptsDigit 81 = .ok (.aload_n 0, 1) := by decide +kernel
theorem dX5_acceptsDigit_82 : decode cX5_acceptsDigit 82 = .ok (.dup, 1) := by decide +kernel
theorem dX5_acceptsDigit_83 : decode cX5_acceptsDigit 83 = .ok (.getfield 53, 3) := by decide +kernel
theorem dX5_acceptsDigit_86 : decode cX5_acceptsDigit 86 = .ok (.iconst 1, 1) := by decide +kernel
theorem dX5_acceptsDigit_87 : decode cX5_acceptsDigit 87 = .ok (.iadd, 1) := by decide +kernel
theorem dX5_acceptsDigit_88 : decode cX5_acceptsDigit 88 = .ok (.putfield 53, 3) := by decide +kernel
theorem dX5_acceptsDigit_91 : decode cX5_acceptsDigit 91 = .ok (.iload_n 3, 1) := by decide +kernel
theorem dX5_acceptsDigit_92 : decode cX5_acceptsDigit 92 = .ok (.ireturn, 1) := by decide +kernel
theorem dX5_acceptsInSource_0 : decode cX5_acceptsInSource 0 = .ok (.aload_n 0, 1) := by decide +kernel
theorem dX5_acceptsInSource_1 : decode cX5_acceptsInSource 1 = .ok (.getfield 56, 3) := by decide +kernel
theorem dX5_acceptsInSource_4 : decode cX5_acceptsInSource 4 = .ok (.iconst (-1), 1) := by decide +kernel
theorem dX5_acceptsInSource_5 : decode cX5_acceptsInSource 5 = .ok (.if_icmp .ne 22, 3) := by decide +kernel
theorem dX5_acceptsInSource_8 : decode cX5_acceptsInSource 8 = .ok (.iload_n 1, 1) := by decide +kernel
theorem dX5_acceptsInSource_9 : decode cX5_acceptsInSource 9 = .ok (.invokestatic 79, 3) := by decide +kernel
theorem dX5_acceptsInSource_12 : decode cX5_acceptsInSource 12 = .ok (.ifCond .ne 5, 3) := by decide +kernel
theorem dX5_acceptsInSource_15 : decode cX5_acceptsInSource 15 = .ok (.iconst 0, 1) := by decide +kernel
theorem dX5_acceptsInSource_16 : decode cX5_acceptsInSource 16 = .ok (.ireturn, 1) := by decide +kernel
theorem dX5_acceptsInSource_17 : decode cX5_acceptsInSource 17 = .ok (.aload_n 0, 1) := by decide +kernel
theorem dX5_acceptsInSource_18 : decode cX5_acceptsInSource 18 = .ok (.iload_n 1, 1) := by decide +kernel
theorem dX5_acceptsInSource_19 : decode cX5_acceptsInSource 19 = .ok (.bipush 48, 2) := by decide +kernel
theorem dX5_acceptsInSource_21 : decode cX5_acceptsInSource 21 = .ok (.isub, 1) := by decide +kernel
theorem dX5_acceptsInSource_22 : decode cX5_acceptsInSource 22 = .ok (.putfield 56, 3) := by decide +kernel
theorem dX5_acceptsInSource_25 : decode cX5_acceptsInSource 25 = .ok (.iconst 1, 1) := by decide +kernel
theorem dX5_acceptsInSource_26 : decode cX5_acceptsInSource 26 = .ok (.ireturn, 1) := by decide +kernel
theorem dX5_acceptsInSource_27 : decode cX5_acceptsInSource 27 = .ok (.iload_n 1, 1) := by decide +kernel
theorem dX5_acceptsInSource_28 : decode cX5_acceptsInSource 28 = .ok (.bipush 45, 2) := by decide +kernel
theorem dX5_acceptsInSource_30 : decode cX5_acceptsInSource 30 = .ok (.if_icmp .ne 30, 3) := by decide +kernel
theorem dX5_acceptsInSource_33 : decode cX5_acceptsInSource 33 = .ok (.aload_n 0, 1) := by decide +kernel
theorem dX5_acceptsInSource_34 : decode cX5_acceptsInSource 34 = .ok (.getfield 59, 3) := by decide +kernel
theorem dX5_acceptsInSource_37 : decode cX5_acceptsInSource 37 = .ok (.ifCond .ne 14, 3) := by decide +kernel
theorem dX5_acceptsInSource_40 : decode cX5_acceptsInSource 40 = .ok (.aload_n 0, 1) := by decide +kernel
theorem dX5_acceptsInSource_41 : decode cX5_acceptsInSource 41 = .ok (.getfield 53, 3) := by decide +kernel
theorem dX5_acceptsInSource_44 : decode cX5_acceptsInSource 44 = .ok (.ifCond .ne 7, 3) := by decide +kernel
theorem dX5_acceptsInSource_47 : decode cX5_acceptsInSource 47 = .ok (.iconst 1, 1) := by decide +kernel
theorem dX5_acceptsInSource_48 : decode cX5_acceptsInSource 48 = .ok (.goto 4, 3) := by decide +kernel
theorem dX5_acceptsInSource_51 : decode cX5_acceptsInSource 51 = .ok (.iconst 0, 1) := by decide +kernel
theorem dX5_acceptsInSource_52 : decode cX5_acceptsInSource 52 = .ok (.istore_n 2, 1) := by decide +kernel
theorem dX5_acceptsInSource_53 : decode cX5_acceptsInSource 53 = .ok (.aload_n 0, 1) := by decide +kernel
theorem dX5_acceptsInSource_54 : decode cX5_acceptsInSource 54 = .ok (.iconst 1, 1) := by decide +kernel
theorem dX5_acceptsInSource_55 : decode cX5_acceptsInSource 55 = .ok (.putfield 59, 3) := by decide +kernel
theorem dX5_acceptsInSource_58 : decode cX5_acceptsInSource 58 = .ok (.iload_n 2, 1) := by decide +kernel
theorem dX5_acceptsInSource_59 : decode cX5_acceptsInSource 59 = .ok (.ireturn, 1) := by decide +kernel
theorem dX5_acceptsInSource_60 : decode cX5_acceptsInSource 60 = .ok (.aload_n 0, 1) := by decide +kernel
theorem dX5_acceptsInSource_61 : decode cX5_acceptsInSource 61 = .ok (.iload_n 1, 1) := by decide +kernel
theorem dX5_acceptsInSource_62 : decode cX5_acceptsInSource 62 = .ok (.invokevirtual 82, 3) := by decide +kernel
theorem dX5_acceptsInSource_65 : decode cX5_acceptsInSource 65 = .ok (.ireturn, 1) := by decide +kernel
theorem dX5_acceptsInValue_0 : decode cX5_acceptsInValue 0 = .ok (.aload_n 0, 1) := by decide +kernel
theorem dX5_acceptsInValue_1 : decode cX5_acceptsInValue 1 = .ok (.getfield 53, 3) := by decide +kernel
theorem dX5_acceptsInValue_4 : decode cX5_acceptsInValue 4 = .ok (.ifCond .le 14, 3) := by decide +kernel
theorem dX5_acceptsInValue_7 : decode cX5_acceptsInValue 7 = .ok (.aload_n 0, 1) := by decide +kernel
theorem dX5_acceptsInValue_8 : decode cX5_acceptsInValue 8 = .ok (.getfield 63, 3) := by decide +kernel
theorem dX5_acceptsInValue_11 : decode cX5_acceptsInValue 11 = .ok (.ifCond .ne 7, 3) := by decide +kernel
theorem dX5_acceptsInValue_14 : decode cX5_acceptsInValue 14 = .ok (.iconst 1, 1) := by decide +kernel
theorem dX5_acceptsInValue_15 : decode cX5_acceptsInValue 15 = .ok (.goto 4, 3) := by decide +kernel
theorem dX5_acceptsInValue_18 : decode cX5_acceptsInValue 18 = .ok (.iconst 0, 1) := by decide +kernel
theorem dX5_acceptsInValue_19 : decode cX5_acceptsInValue 19 = .ok (.istore_n 2, 1) := by decide +kernel
theorem dX5_acceptsInValue_20 : decode cX5_acceptsInValue 20 = .ok (.iload_n 1, 1) := by decide +kernel
theorem dX5_acceptsInValue_21 : decode cX5_acceptsInValue 21 = .ok (.bipush 48, 2) := by decide +kernel
end
section
theorem dX5_acceptsInValue_23 : decode cX5_acceptsInValue 23 = .ok (.if_icmp .lt 13, 3) := by decide +kernel
theorem dX5_acceptsInValue_26 : decode cX5_acceptsInValue 26 = .ok (.iload_n 1, 1) := by decide +kernel
theorem dX5_acceptsInValue_27 : decode cX5_acceptsInValue 27 = .ok (.bipush 57, 2) := by decide +kernel
theorem dX5_acceptsInValue_29 : decode cX5_acceptsInValue 29 = .ok (.if_icmp .gt 7, 3) := by decide +kernel
theorem dX5_acceptsInValue_32 : decode cX5_acceptsInValue 32 = .ok (.iload_n 2, 1) := by decide +kernel
theorem dX5_acceptsInValue_33 : decode cX5_acceptsInValue 33 = .ok (.ifCond .eq 5, 3) := by decide +kernel
theorem dX5_acceptsInValue_36 : decode cX5_acceptsInValue 36 = .ok (.iconst 0, 1) := by decide +kernel
theorem dX5_acceptsInValue_37 : decode cX5_acceptsInValue 37 = .ok (.ireturn, 1) := by decide +kernel
theorem dX5_acceptsInValue_38 : decode cX5_acceptsInValue 38 = .ok (.aload_n 0, 1) := by decide +kernel
theorem dX5_acceptsInValue_39 : decode cX5_acceptsInValue 39 = .ok (.bipush 10, 2) := by decide +kernel
theorem dX5_acceptsInValue_41 : decode cX5_acceptsInValue 41 = .ok (.aload_n 0, 1) := by decide +kernel
theorem dX5_acceptsInValue_42 : decode cX5_acceptsInValue 42 = .ok (.getfield 63, 3) := by decide +kernel
theorem dX5_acceptsInValue_45 : decode cX5_acceptsInValue 45 = .ok (.imul, 1) := by decide +kernel
theorem dX5_acceptsInValue_46 : decode cX5_acceptsInValue 46 = .ok (.iload_n 1, 1) := by decide +kernel
theorem dX5_acceptsInValue_47 : decode cX5_acceptsInValue 47 = .ok (.bipush 48, 2) := by decide +kernel
theorem dX5_acceptsInValue_49 : decode cX5_acceptsInValue 49 = .ok (.isub, 1) := by decide +kernel
theorem dX5_acceptsInValue_50 : decode cX5_acceptsInValue 50 = .ok (.iadd, 1) := by decide +kernel
theorem dX5_acceptsInValue_51 : decode cX5_acceptsInValue 51 = .ok (.putfield 63, 3) := by decide +kernel
theorem dX5_acceptsInValue_54 : decode cX5_acceptsInValue 54 = .ok (.aload_n 0, 1) := by decide +kernel
theorem dX5_acceptsInValue_55 : decode cX5_acceptsInValue 55 = .ok (.dup, 1) := by decide +kernel
theorem dX5_acceptsInValue_56 : decode cX5_acceptsInValue 56 = .ok (.getfield 53, 3) := by decide +kernel
theorem dX5_acceptsInValue_59 : decode cX5_acceptsInValue 59 = .ok (.iconst 1, 1) := by decide +kernel
theorem dX5_acceptsInValue_60 : decode cX5_acceptsInValue 60 = .ok (.iadd, 1) := by decide +kernel
theorem dX5_acceptsInValue_61 : decode cX5_acceptsInValue 61 = .ok (.putfield 53, 3) := by decide +kernel
theorem dX5_acceptsInValue_64 : decode cX5_acceptsInValue 64 = .ok (.aload_n 0, 1) := by decide +kernel
theorem dX5_acceptsInValue_65 : decode cX5_acceptsInValue 65 = .ok (.getfield 63, 3) := by decide +kernel
theorem dX5_acceptsInValue_68 : decode cX5_acceptsInValue 68 = .ok (.sipush 200, 3) := by decide +kernel
theorem dX5_acceptsInValue_71 : decode cX5_acceptsInValue 71 = .ok (.if_icmp .gt 7, 3) := by decide +kernel
theorem dX5_acceptsInValue_74 : decode cX5_acceptsInValue 74 = .ok (.iconst 1, 1) := by decide +kernel
theorem dX5_acceptsInValue_75 : decode cX5_acceptsInValue 75 = .ok (.goto 4, 3) := by decide +kernel
theorem dX5_acceptsInValue_78 : decode cX5_acceptsInValue 78 = .ok (.iconst 0, 1) := by decide +kernel
theorem dX5_acceptsInValue_79 : decode cX5_acceptsInValue 79 = .ok (.ireturn, 1) := by decide +kernel
theorem dX5_isNode_0 : decode cX5_isNode 0 = .ok (.iload_n 0, 1) := by decide +kernel
theorem dX5_isNode_1 : decode cX5_isNode 1 = .ok (.bipush 48, 2) := by decide +kernel
theorem dX5_isNode_3 : decode cX5_isNode 3 = .ok (.if_icmp .lt 13, 3) := by decide +kernel
theorem dX5_isNode_6 : decode cX5_isNode 6 = .ok (.iload_n 0, 1) := by decide +kernel
theorem dX5_isNode_7 : decode cX5_isNode 7 = .ok (.bipush 55, 2) := by decide +kernel
theorem dX5_isNode_9 : decode cX5_isNode 9 = .ok (.if_icmp .ge 7, 3) := by decide +kernel
theorem dX5_isNode_12 : decode cX5_isNode 12 = .ok (.iconst 1, 1) := by decide +kernel
theorem dX5_isNode_13 : decode cX5_isNode 13 = .ok (.goto 4, 3) := by decide +kernel
theorem dX5_isNode_16 : decode cX5_isNode 16 = .ok (.iconst 0, 1) := by decide +kernel
theorem dX5_isNode_17 : decode cX5_isNode 17 = .ok (.ireturn, 1) := by decide +kernel
theorem dX5_endsPart_0 : decode cX5_endsPart 0 = .ok (.aload_n 0, 1) := by decide +kernel
theorem dX5_endsPart_1 : decode cX5_endsPart 1 = .ok (.getfield 50, 3) := by decide +kernel
theorem dX5_endsPart_4 : decode cX5_endsPart 4 = .ok (.iconst (-1), 1) := by decide +kernel
theorem dX5_endsPart_5 : decode cX5_endsPart 5 = .ok (.if_icmp .ne 5, 3) := by decide +kernel
theorem dX5_endsPart_8 : decode cX5_endsPart 8 = .ok (.iconst 0, 1) := by decide +kernel
theorem dX5_endsPart_9 : decode cX5_endsPart 9 = .ok (.ireturn, 1) := by decide +kernel
theorem dX5_endsPart_10 : decode cX5_endsPart 10 = .ok (.aload_n 0, 1) := by decide +kernel
theorem dX5_endsPart_11 : decode cX5_endsPart 11 = .ok (.getfield 50, 3) := by decide +kernel
theorem dX5_endsPart_14 : decode cX5_endsPart 14 = .ok (.iconst 1, 1) := by decide +kernel
theorem dX5_endsPart_15 : decode cX5_endsPart 15 = .ok (.if_icmp .ne 46, 3) := by decide +kernel
theorem dX5_endsPart_18 : decode cX5_endsPart 18 = .ok (.aload_n 0, 1) := by decide +kernel
theorem dX5_endsPart_19 : decode cX5_endsPart 19 = .ok (.getfield 53, 3) := by decide +kernel
theorem dX5_endsPart_22 : decode cX5_endsPart 22 = .ok (.ifCond .ne 5, 3) := by decide +kernel
theorem dX5_endsPart_25 : decode cX5_endsPart 25 = .ok (.iconst 0, 1) := by decide +kernel
theorem dX5_endsPart_26 : decode cX5_endsPart 26 = .ok (.ireturn, 1) := by decide +kernel
theorem dX5_endsPart_27 : decode cX5_endsPart 27 = .ok (.aload_n 0, 1) := by decide +kernel
theorem dX5_endsPart_28 : decode cX5_endsPart 28 = .ok (.getfield 20, 3) := by decide +kernel
theorem dX5_endsPart_31 : decode cX5_endsPart 31 = .ok (.iconst 1, 1) := by decide +kernel
theorem dX5_endsPart_32 : decode cX5_endsPart 32 = .ok (.aload_n 0, 1) := by decide +kernel
theorem dX5_endsPart_33 : decode cX5_endsPart 33 = .ok (.getfield 56, 3) := by decide +kernel
theorem dX5_endsPart_36 : decode cX5_endsPart 36 = .ok (.iconst (-1), 1) := by decide +kernel
theorem dX5_endsPart_37 : decode cX5_endsPart 37 = .ok (.aload_n 0, 1) := by decide +kernel
theorem dX5_endsPart_38 : decode cX5_endsPart 38 = .ok (.getfield 59, 3) := by decide +kernel
theorem dX5_endsPart_41 : decode cX5_endsPart 41 = .ok (.ifCond .eq 11, 3) := by decide +kernel
theorem dX5_endsPart_44 : decode cX5_endsPart 44 = .ok (.aload_n 0, 1) := by decide +kernel
theorem dX5_endsPart_45 : decode cX5_endsPart 45 = .ok (.getfield 63, 3) := by decide +kernel
theorem dX5_endsPart_48 : decode cX5_endsPart 48 = .ok (.ineg, 1) := by decide +kernel
theorem dX5_endsPart_49 : decode cX5_endsPart 49 = .ok (.goto 7, 3) := by decide +kernel
theorem dX5_endsPart_52 : decode cX5_endsPart 52 = .ok (.aload_n 0, 1) := by decide +kernel
theorem dX5_endsPart_53 : decode cX5_endsPart 53 = .ok (.getfield 63, 3) := by decide +kernel
theorem dX5_endsPart_56 : decode cX5_endsPart 56 = .ok (.invokevirtual 85, 3) := by decide +kernel
theorem dX5_endsPart_59 : decode cX5_endsPart 59 = .ok (.iconst 1, 1) := by decide +kernel
theorem dX5_endsPart_60 : decode cX5_endsPart 60 = .ok (.ireturn, 1) := by decide +kernel
theorem dX5_endsPart_61 : decode cX5_endsPart 61 = .ok (.aload_n 0, 1) := by decide +kernel
theorem dX5_endsPart_62 : decode cX5_endsPart 62 = .ok (.getfield 53, 3) := by decide +kernel
theorem dX5_endsPart_65 : decode cX5_endsPart 65 = .ok (.aload_n 0, 1) := by decide +kernel
theorem dX5_endsPart_66 : decode cX5_endsPart 66 = .ok (.getfield 24, 3) := by decide +kernel
theorem dX5_endsPart_69 : decode cX5_endsPart 69 = .ok (.arraylength, 1) := by decide +kernel
theorem dX5_endsPart_70 : decode cX5_endsPart 70 = .ok (.if_icmp .ge 5, 3) := by decide +kernel
theorem dX5_endsPart_73 : decode cX5_endsPart 73 = .ok (.iconst 0, 1) := by decide +kernel
theorem dX5_endsPart_74 : decode cX5_endsPart 74 = .ok (.ireturn, 1) := by decide +kernel
theorem dX5_endsPart_75 : decode cX5_endsPart 75 = .ok (.aload_n 0, 1) := by decide +kernel
theorem dX5_endsPart_76 : decode cX5_endsPart 76 = .ok (.getfield 20, 3) := by decide +kernel
theorem dX5_endsPart_79 : decode cX5_endsPart 79 = .ok (.aload_n 0, 1) := by decide +kernel
theorem dX5_endsPart_80 : decode cX5_endsPart 80 = .ok (.getfield 50, 3) := by decide +kernel
theorem dX5_endsPart_83 : decode cX5_endsPart 83 = .ok (.aload_n 0, 1) := by decide +kernel
theorem dX5_endsPart_84 : decode cX5_endsPart 84 = .ok (.getfield 24, 3) := by decide +kernel
theorem dX5_endsPart_87 : decode cX5_endsPart 87 = .ok (.iconst 0, 1) := by decide +kernel
theorem dX5_endsPart_88 : decode cX5_endsPart 88 = .ok (.iaload, 1) := by decide +kernel
theorem dX5_endsPart_89 : decode cX5_endsPart 89 = .ok (.aload_n 0, 1) := by decide +kernel
theorem dX5_endsPart_90 : decode cX5_endsPart 90 = .ok (.getfield 24, 3) := by decide +kernel
theorem dX5_endsPart_93 : decode cX5_endsPart 93 = .ok (.iconst 1, 1) := by decide +kernel
theorem dX5_endsPart_94 : decode cX5_endsPart 94 = .ok (.iaload, 1) := by decide +kernel
theorem dX5_endsPart_95 : decode cX5_endsPart 95 = .ok (.aload_n 0, 1) := by decide +kernel
theorem dX5_endsPart_96 : decode cX5_endsPart 96 = .ok (.getfield 24, 3) := by decide +kernel
theorem dX5_endsPart_99 : decode cX5_endsPart 99 = .ok (.iconst 2, 1) := by decide +kernel
theorem dX5_endsPart_100 : decode cX5_endsPart 100 = .ok (.iaload, 1) := by decide +kernel
theorem dX5_endsPart_101 : decode cX5_endsPart 101 = .ok (.invokevirtual 85, 3) := by decide +kernel
theorem dX5_endsPart_104 : decode cX5_endsPart 104 = .ok (.iconst 1, 1) := by decide +kernel
theorem dX5_endsPart_105 : decode cX5_endsPart 105 = .ok (.ireturn, 1) := by decide +kernel
theorem dX6_init_0 : decode cX6_init 0 = .ok (.aload_n 0, 1) := by decide +kernel
theorem dX6_init_1 : decode cX6_init 1 = .ok (.invokespecial 1, 3) := by decide +kernel
theorem dX6_init_4 : decode cX6_init 4 = .ok (.aload_n 0, 1) := by decide +kernel
theorem dX6_init_5 : decode cX6_init 5 = .ok (.new 7, 3) := by decide +kernel
theorem dX6_init_8 : decode cX6_init 8 = .ok (.dup, 1) := by decide +kernel
theorem dX6_init_9 : decode cX6_init 9 = .ok (.invokespecial 9, 3) := by decide +kernel
theorem dX6_init_12 : decode cX6_init 12 = .ok (.putfield 10, 3) := by decide +kernel
theorem dX6_init_15 : decode cX6_init 15 = .ok (.aload_n 0, 1) := by decide +kernel
theorem dX6_init_16 : decode cX6_init 16 = .ok (.new 7, 3) := by decide +kernel
theorem dX6_init_19 : decode cX6_init 19 = .ok (.dup, 1) := by decide +kernel
theorem dX6_init_20 : decode cX6_init 20 = .ok (.invokespecial 9, 3) := by decide +kernel
theorem dX6_init_23 : decode cX6_init 23 = .ok (.putfield 16, 3) := by decide +kernel
theorem dX6_init_26 : decode cX6_init 26 = .ok (.aload_n 0, 1) := by decide +kernel
theorem dX6_init_27 : decode cX6_init 27 = .ok (.new 19, 3) := by decide +kernel
theorem dX6_init_30 : decode cX6_init 30 = .ok (.dup, 1) := by decide +kernel
theorem dX6_init_31 : decode cX6_init 31 = .ok (.invokespecial 21, 3) := by decide +kernel
theorem dX6_init_34 : decode cX6_init 34 = .ok (.putfield 22, 3) := by decide +kernel
theorem dX6_init_37 : decode cX6_init 37 = .ok (.aload_n 0, 1) := by decide +kernel
theorem dX6_init_38 : decode cX6_init 38 = .ok (.new 26, 3) := by decide +kernel
theorem dX6_init_41 : decode cX6_init 41 = .ok (.dup, 1) := by decide +kernel
theorem dX6_init_42 : decode cX6_init 42 = .ok (.invokespecial 28, 3) := by decide +kernel
theorem dX6_init_45 : decode cX6_init 45 = .ok (.putfield 29, 3) := by decide +kernel
theorem dX6_init_48 : decode cX6_init 48 = .ok (.aload_n 0, 1) := by decide +kernel
theorem dX6_init_49 : decode cX6_init 49 = .ok (.iconst 2, 1) := by decide +kernel
theorem dX6_init_50 : decode cX6_init 50 = .ok (.anewarray 33, 3) := by decide +kernel
theorem dX6_init_53 : decode cX6_init 53 = .ok (.putfield 35, 3) := by decide +kernel
theorem dX6_init_56 : decode cX6_init 56 = .ok (.iconst 0, 1) := by decide +kernel
theorem dX6_init_57 : decode cX6_init 57 = .ok (.istore_n 1, 1) := by decide +kernel
theorem dX6_init_58 : decode cX6_init 58 = .ok (.iload_n 1, 1) := by decide +kernel
theorem dX6_init_59 : decode cX6_init 59 = .ok (.iconst 2, 1) := by decide +kernel
theorem dX6_init_60 : decode cX6_init 60 = .ok (.if_icmp .ge 22, 3) := by decide +kernel
theorem dX6_init_63 : decode cX6_init 63 = .ok (.aload_n 0, 1) := by decide +kernel
theorem dX6_init_64 : decode cX6_init 64 = .ok (.getfield 35, 3) := by decide +kernel
theorem dX6_init_67 : decode cX6_init 67 = .ok (.iload_n 1, 1) := by decide +kernel
theorem dX6_init_68 : decode cX6_init 68 = .ok (.new 33, 3) := by decide +kernel
theorem dX6_init_71 : decode cX6_init 71 = .ok (.dup, 1) := by decide +kernel
theorem dX6_init_72 : decode cX6_init 72 = .ok (.invokespecial 39, 3) := by decide +kernel
theorem dX6_init_75 : decode cX6_init 75 = .ok (.aastore, 1) := by decide +kernel
theorem dX6_init_76 : decode cX6_init 76 = .ok (.iinc 1 1, 3) := by decide +kernel
theorem dX6_init_79 : decode cX6_init 79 = .ok (.goto (-21), 3) := by decide +kernel
theorem dX6_init_82 : decode cX6_init 82 = .ok (.aload_n 0, 1) := by decide +kernel
theorem dX6_init_83 : decode cX6_init 83 = .ok (.getfield 10, 3) := by decide +kernel
theorem dX6_init_86 : decode cX6_init 86 = .ok (.invokevirtual 40, 3) := by decide +kernel
theorem dX6_init_89 : decode cX6_init 89 = .ok (.return_, 1) := by decide +kernel
theorem dX6_begin_0 : decode cX6_begin 0 = .ok (.aload_n 0, 1) := by decide +kernel
theorem dX6_begin_1 : decode cX6_begin 1 = .ok (.getfield 10, 3) := by decide +kernel
theorem dX6_begin_4 : decode cX6_begin 4 = .ok (.getfield 43, 3) := by decide +kernel
theorem dX6_begin_7 : decode cX6_begin 7 = .ok (.getfield 47, 3) := by decide +kernel
theorem dX6_begin_10 : decode cX6_begin 10 = .ok (.getfield 51, 3) := by decide +kernel
theorem dX6_begin_13 : decode cX6_begin 13 = .ok (.istore_n 1, 1) := by decide +kernel
theorem dX6_begin_14 : decode cX6_begin 14 = .ok (.aload_n 0, 1) := by decide +kernel
theorem dX6_begin_15 : decode cX6_begin 15 = .ok (.getfield 29, 3) := by decide +kernel
theorem dX6_begin_18 : decode cX6_begin 18 = .ok (.aload_n 0, 1) := by decide +kernel
theorem dX6_begin_19 : decode cX6_begin 19 = .ok (.getfield 10, 3) := by decide +kernel
theorem dX6_begin_22 : decode cX6_begin 22 = .ok (.getfield 43, 3) := by decide +kernel
theorem dX6_begin_25 : decode cX6_begin 25 = .ok (.invokevirtual 57, 3) := by decide +kernel
theorem dX6_begin_28 : decode cX6_begin 28 = .ok (.aload_n 0, 1) := by decide +kernel
theorem dX6_begin_29 : decode cX6_begin 29 = .ok (.getfield 10, 3) := by decide +kernel
theorem dX6_begin_32 : decode cX6_begin 32 = .ok (.getfield 43, 3) := by decide +kernel
theorem dX6_begin_35 : decode cX6_begin 35 = .ok (.invokevirtual 61, 3) := by decide +kernel
theorem dX6_begin_38 : decode cX6_begin 38 = .ok (.aload_n 0, 1) := by decide +kernel
theorem dX6_begin_39 : decode cX6_begin 39 = .ok (.getfield 10, 3) := by decide +kernel
theorem dX6_begin_42 : decode cX6_begin 42 = .ok (.invokevirtual 40, 3) := by decide +kernel
theorem dX6_begin_45 : decode cX6_begin 45 = .ok (.aload_n 0, 1) := by decide +kernel
theorem dX6_begin_46 : decode cX6_begin 46 = .ok (.getfield 10, 3) := by decide +kernel
theorem dX6_begin_49 : decode cX6_begin 49 = .ok (.invokevirtual 64, 3) := by decide +kernel
theorem dX6_begin_52 : decode cX6_begin 52 = .ok (.iload_n 1, 1) := by decide +kernel
theorem dX6_begin_53 : decode cX6_begin 53 = .ok (.ireturn, 1) := by decide +kernel
theorem dX6_load_0 : decode cX6_load 0 = .ok (.aload_n 0, 1) := by decide +kernel
theorem dX6_load_1 : decode cX6_load 1 = .ok (.getfield 22, 3) := by decide +kernel
theorem dX6_load_4 : decode cX6_load 4 = .ok (.invokevirtual 67, 3) := by decide +kernel
theorem dX6_load_7 : decode cX6_load 7 = .ok (.ifCond .eq 16, 3) := by decide +kernel
theorem dX6_load_10 : decode cX6_load 10 = .ok (.aload_n 0, 1) := by decide +kernel
theorem dX6_load_11 : decode cX6_load 11 = .ok (.getfield 22, 3) := by decide +kernel
theorem dX6_load_14 : decode cX6_load 14 = .ok (.getfield 71, 3) := by decide +kernel
theorem dX6_load_17 : decode cX6_load 17 = .ok (.invokevirtual 72, 3) := by decide +kernel
theorem dX6_load_20 : decode cX6_load 20 = .ok (.ifCond .ne 13, 3) := by decide +kernel
theorem dX6_load_23 : decode cX6_load 23 = .ok (.new 75, 3) := by decide +kernel
theorem dX6_load_26 : decode cX6_load 26 = .ok (.dup, 1) := by decide +kernel
theorem dX6_load_27 : decode cX6_load 27 = .ok (.ldc 77, 2) := by decide +kernel
theorem dX6_load_29 : decode cX6_load 29 = .ok (.invokespecial 79, 3) := by decide +kernel
theorem dX6_load_32 : decode cX6_load 32 = .ok (.athrow, 1) := by decide +kernel
theorem dX6_load_33 : decode cX6_load 33 = .ok (.aload_n 0, 1) := by decide +kernel
theorem dX6_load_34 : decode cX6_load 34 = .ok (.getfield 10, 3) := by decide +kernel
theorem dX6_load_37 : decode cX6_load 37 = .ok (.getfield 43, 3) := by decide +kernel
theorem dX6_load_40 : decode cX6_load 40 = .ok (.getfield 47, 3) := by decide +kernel
theorem dX6_load_43 : decode cX6_load 43 = .ok (.aload_n 0, 1) := by decide +kernel
theorem dX6_load_44 : decode cX6_load 44 = .ok (.getfield 22, 3) := by decide +kernel
theorem dX6_load_47 : decode cX6_load 47 = .ok (.getfield 71, 3) := by decide +kernel
theorem dX6_load_50 : decode cX6_load 50 = .ok (.invokevirtual 82, 3) := by decide +kernel
theorem dX6_load_53 : decode cX6_load 53 = .ok (.ifCond .ne 13, 3) := by decide +kernel
theorem dX6_load_56 : decode cX6_load 56 = .ok (.new 86, 3) := by decide +kernel
theorem dX6_load_59 : decode cX6_load 59 = .ok (.dup, 1) := by decide +kernel
theorem dX6_load_60 : decode cX6_load 60 = .ok (.ldc 88, 2) := by decide +kernel
theorem dX6_load_62 : decode cX6_load 62 = .ok (.invokespecial 90, 3) := by decide +kernel
theorem dX6_load_65 : decode cX6_load 65 = .ok (.athrow, 1) := by decide +kernel
theorem dX6_load_66 : decode cX6_load 66 = .ok (.aload_n 0, 1) := by decide +kernel
theorem dX6_load_67 : decode cX6_load 67 = .ok (.getfield 29, 3) := by decide +kernel
theorem dX6_load_70 : decode cX6_load 70 = .ok (.aload_n 0, 1) := by decide +kernel
theorem dX6_load_71 : decode cX6_load 71 = .ok (.getfield 10, 3) := by decide +kernel
theorem dX6_load_74 : decode cX6_load 74 = .ok (.getfield 43, 3) := by decide +kernel
theorem dX6_load_77 : decode cX6_load 77 = .ok (.invokevirtual 57, 3) := by decide +kernel
theorem dX6_load_80 : decode cX6_load 80 = .ok (.aload_n 0, 1) := by decide +kernel
theorem dX6_load_81 : decode cX6_load 81 = .ok (.getfield 10, 3) := by decide +kernel
theorem dX6_load_84 : decode cX6_load 84 = .ok (.getfield 43, 3) := by decide +kernel
theorem dX6_load_87 : decode cX6_load 87 = .ok (.getfield 47, 3) := by decide +kernel
theorem dX6_load_90 : decode cX6_load 90 = .ok (.aload_n 0, 1) := by decide +kernel
theorem dX6_load_91 : decode cX6_load 91 = .ok (.getfield 22, 3) := by decide +kernel
theorem dX6_load_94 : decode cX6_load 94 = .ok (.getfield 71, 3) := by decide +kernel
theorem dX6_load_97 : decode cX6_load 97 = .ok (.invokevirtual 91, 3) := by decide +kernel
theorem dX6_load_100 : decode cX6_load 100 = .ok (.aload_n 0, 1) := by decide +kernel
theorem dX6_load_101 : decode cX6_load 101 = .ok (.getfield 22, 3) := by decide +kernel
theorem dX6_load_104 : decode cX6_load 104 = .ok (.iconst 0, 1) := by decide +kernel
theorem dX6_load_105 : decode cX6_load 105 = .ok (.putfield 95, 3) := by decide +kernel
theorem dX6_load_108 : decode cX6_load 108 = .ok (.aload_n 0, 1) := by decide +kernel
theorem dX6_load_109 : decode cX6_load 109 = .ok (.getfield 10, 3) := by decide +kernel
theorem dX6_load_112 : decode cX6_load 112 = .ok (.invokevirtual 40, 3) := by decide +kernel
theorem dX6_load_115 : decode cX6_load 115 = .ok (.aload_n 0, 1) := by decide +kernel
theorem dX6_load_116 : decode cX6_load 116 = .ok (.getfield 10, 3) := by decide +kernel
theorem dX6_load_119 : decode cX6_load 119 = .ok (.invokevirtual 64, 3) := by decide +kernel
theorem dX6_load_122 : decode cX6_load 122 = .ok (.aload_n 0, 1) := by decide +kernel
theorem dX6_load_123 : decode cX6_load 123 = .ok (.getfield 10, 3) := by decide +kernel
theorem dX6_load_126 : decode cX6_load 126 = .ok (.getfield 43, 3) := by decide +kernel
theorem dX6_load_129 : decode cX6_load 129 = .ok (.getfield 47, 3) := by decide +kernel
theorem dX6_load_132 : decode cX6_load 132 = .ok (.getfield 51, 3) := by decide +kernel
theorem dX6_load_135 : decode cX6_load 135 = .ok (.ireturn, 1) := by decide +kernel
theorem dX6_setValue_0 : decode cX6_setValue 0 = .ok (.aload_n 0, 1) := by decide +kernel
theorem dX6_setValue_1 : decode cX6_setValue 1 = .ok (.iload_n 1, 1) := by decide +kernel
theorem dX6_setValue_2 : decode cX6_setValue 2 = .ok (.iload_n 2, 1) := by decide +kernel
theorem dX6_setValue_3 : decode cX6_setValue 3 = .ok (.invokevirtual 98, 3) := by decide +kernel
theorem dX6_setValue_6 : decode cX6_setValue 6 = .ok (.aload_n 0, 1) := by decide +kernel
theorem dX6_setValue_7 : decode cX6_setValue 7 = .ok (.getfield 10, 3) := by decide +kernel
theorem dX6_setValue_10 : decode cX6_setValue 10 = .ok (.getfield 43, 3) := by decide +kernel
theorem dX6_setValue_13 : decode cX6_setValue 13 = .ok (.getfield 47, 3) := by decide +kernel
theorem dX6_setValue_16 : decode cX6_setValue 16 = .ok (.getfield 102, 3) := by decide +kernel
theorem dX6_setValue_19 : decode cX6_setValue 19 = .ok (.iload_n 1, 1) := by decide +kernel
theorem dX6_setValue_20 : decode cX6_setValue 20 = .ok (.iaload, 1) := by decide +kernel
theorem dX6_setValue_21 : decode cX6_setValue 21 = .ok (.istore_n 3, 1) := by decide +kernel
theorem dX6_setValue_22 : decode cX6_setValue 22 = .ok (.aload_n 0, 1) := by decide +kernel
theorem dX6_setValue_23 : decode cX6_setValue 23 = .ok (.getfield 29, 3) := by decide +kernel
theorem dX6_setValue_26 : decode cX6_setValue 26 = .ok (.aload_n 0, 1) := by decide +kernel
theorem dX6_setValue_27 : decode cX6_setValue 27 = .ok (.getfield 10, 3) := by decide +kernel
theorem dX6_setValue_30 : decode cX6_setValue 30 = .ok (.getfield 43, 3) := by decide +kernel
theorem dX6_setValue_33 : decode cX6_setValue 33 = .ok (.invokevirtual 57, 3) := by decide +kernel
theorem dX6_setValue_36 : decode cX6_setValue 36 = .ok (.aload_n 0, 1) := by decide +kernel
theorem dX6_setValue_37 : decode cX6_setValue 37 = .ok (.getfield 10, 3) := by decide +kernel
theorem dX6_setValue_40 : decode cX6_setValue 40 = .ok (.getfield 43, 3) := by decide +kernel
theorem dX6_setValue_43 : decode cX6_setValue 43 = .ok (.getfield 47, 3) := by decide +kernel
theorem dX6_setValue_46 : decode cX6_setValue 46 = .ok (.getfield 102, 3) := by decide +kernel
theorem dX6_setValue_49 : decode cX6_setValue 49 = .ok (.iload_n 1, 1) := by decide +kernel
theorem dX6_setValue_50 : decode cX6_setValue 50 = .ok (.iload_n 2, 1) := by decide +kernel
theorem dX6_setValue_51 : decode cX6_setValue 51 = .ok (.iastore, 1) := by decide +kernel
theorem dX6_setValue_52 : decode cX6_setValue 52 = .ok (.aload_n 0, 1) := by decide +kernel
theorem dX6_setValue_53 : decode cX6_setValue 53 = .ok (.getfield 10, 3) := by decide +kernel
theorem dX6_setValue_56 : decode cX6_setValue 56 = .ok (.invokevirtual 40, 3) := by decide +kernel
theorem dX6_setValue_59 : decode cX6_setValue 59 = .ok (.aload_n 0, 1) := by decide +kernel
theorem dX6_setValue_60 : decode cX6_setValue 60 = .ok (.getfield 10, 3) := by decide +kernel
theorem dX6_setValue_63 : decode cX6_setValue 63 = .ok (.invokevirtual 64, 3) := by decide +kernel
theorem dX6_setValue_66 : decode cX6_setValue 66 = .ok (.iload_n 3, 1) := by decide +kernel
theorem dX6_setValue_67 : decode cX6_setValue 67 = .ok (.ireturn, 1) := by decide +kernel
theorem dX6_setRail_0 : decode cX6_setRail 0 = .ok (.iload_n 1, 1) := by decide +kernel
theorem dX6_setRail_1 : decode cX6_setRail 1 = .ok (.bipush 10, 2) := by decide +kernel
theorem dX6_setRail_3 : decode cX6_setRail 3 = .ok (.if_icmp .lt 10, 3) := by decide +kernel
theorem dX6_setRail_6 : decode cX6_setRail 6 = .ok (.iload_n 1, 1) := by decide +kernel
theorem dX6_setRail_7 : decode cX6_setRail 7 = .ok (.sipush 200, 3) := by decide +kernel
theorem dX6_setRail_10 : decode cX6_setRail 10 = .ok (.if_icmp .le 13, 3) := by decide +kernel
theorem dX6_setRail_13 : decode cX6_setRail 13 = .ok (.new 75, 3) := by decide +kernel
theorem dX6_setRail_16 : decode cX6_setRail 16 = .ok (.dup, 1) := by decide +kernel
theorem dX6_setRail_17 : decode cX6_setRail 17 = .ok (.ldc 106, 2) := by decide +kernel
theorem dX6_setRail_19 : decode cX6_setRail 19 = .ok (.invokespecial 79, 3) := by decide +kernel
theorem dX6_setRail_22 : decode cX6_setRail 22 = .ok (.athrow, 1) := by decide +kernel
theorem dX6_setRail_23 : decode cX6_setRail 23 = .ok (.aload_n 0, 1) := by decide +kernel
theorem dX6_setRail_24 : decode cX6_setRail 24 = .ok (.getfield 10, 3) := by decide +kernel
theorem dX6_setRail_27 : decode cX6_setRail 27 = .ok (.getfield 43, 3) := by decide +kernel
theorem dX6_setRail_30 : decode cX6_setRail 30 = .ok (.getfield 108, 3) := by decide +kernel
theorem dX6_setRail_33 : decode cX6_setRail 33 = .ok (.istore_n 2, 1) := by decide +kernel
theorem dX6_setRail_34 : decode cX6_setRail 34 = .ok (.aload_n 0, 1) := by decide +kernel
theorem dX6_setRail_35 : decode cX6_setRail 35 = .ok (.getfield 29, 3) := by decide +kernel
theorem dX6_setRail_38 : decode cX6_setRail 38 = .ok (.aload_n 0, 1) := by decide +kernel
theorem dX6_setRail_39 : decode cX6_setRail 39 = .ok (.getfield 10, 3) := by decide +kernel
theorem dX6_setRail_42 : decode cX6_setRail 42 = .ok (.getfield 43, 3) := by decide +kernel
theorem dX6_setRail_45 : decode cX6_setRail 45 = .ok (.invokevirtual 57, 3) := by decide +kernel
theorem dX6_setRail_48 : decode cX6_setRail 48 = .ok (.aload_n 0, 1) := by decide +kernel
theorem dX6_setRail_49 : decode cX6_setRail 49 = .ok (.getfield 10, 3) := by decide +kernel
theorem dX6_setRail_52 : decode cX6_setRail 52 = .ok (.getfield 43, 3) := by decide +kernel
theorem dX6_setRail_55 : decode cX6_setRail 55 = .ok (.iload_n 1, 1) := by decide +kernel
theorem dX6_setRail_56 : decode cX6_setRail 56 = .ok (.putfield 108, 3) := by decide +kernel
theorem dX6_setRail_59 : decode cX6_setRail 59 = .ok (.aload_n 0, 1) := by decide +kernel
theorem dX6_setRail_60 : decode cX6_setRail 60 = .ok (.getfield 10, 3) := by decide +kernel
theorem dX6_setRail_63 : decode cX6_setRail 63 = .ok (.invokevirtual 64, 3) := by decide +kernel
theorem dX6_setRail_66 : decode cX6_setRail 66 = .ok (.iload_n 2, 1) := by decide +kernel
theorem dX6_setRail_67 : decode cX6_setRail 67 = .ok (.ireturn, 1) := by decide +kernel
theorem dX6_drop_0 : decode cX6_drop 0 = .ok (.aload_n 0, 1) := by decide +kernel
theorem dX6_drop_1 : decode cX6_drop 1 = .ok (.iload_n 1, 1) := by decide +kernel
theorem dX6_drop_2 : decode cX6_drop 2 = .ok (.invokevirtual 111, 3) := by decide +kernel
theorem dX6_drop_5 : decode cX6_drop 5 = .ok (.aload_n 0, 1) := by decide +kernel
theorem dX6_drop_6 : decode cX6_drop 6 = .ok (.getfield 29, 3) := by decide +kernel
theorem dX6_drop_9 : decode cX6_drop 9 = .ok (.aload_n 0, 1) := by decide +kernel
theorem dX6_drop_10 : decode cX6_drop 10 = .ok (.getfield 10, 3) := by decide +kernel
theorem dX6_drop_13 : decode cX6_drop 13 = .ok (.getfield 43, 3) := by decide +kernel
theorem dX6_drop_16 : decode cX6_drop 16 = .ok (.invokevirtual 57, 3) := by decide +kernel
theorem dX6_drop_19 : decode cX6_drop 19 = .ok (.aload_n 0, 1) := by decide +kernel
theorem dX6_drop_20 : decode cX6_drop 20 = .ok (.getfield 10, 3) := by decide +kernel
theorem dX6_drop_23 : decode cX6_drop 23 = .ok (.getfield 43, 3) := by decide +kernel
theorem dX6_drop_26 : decode cX6_drop 26 = .ok (.iload_n 1, 1) := by decide +kernel
theorem dX6_drop_27 : decode cX6_drop 27 = .ok (.invokevirtual 115, 3) := by decide +kernel
theorem dX6_drop_30 : decode cX6_drop 30 = .ok (.aload_n 0, 1) := by decide +kernel
theorem dX6_drop_31 : decode cX6_drop 31 = .ok (.getfield 10, 3) := by decide +kernel
theorem dX6_drop_34 : decode cX6_drop 34 = .ok (.invokevirtual 40, 3) := by decide +kernel
theorem dX6_drop_37 : decode cX6_drop 37 = .ok (.aload_n 0, 1) := by decide +kernel
theorem dX6_drop_38 : decode cX6_drop 38 = .ok (.getfield 10, 3) := by decide +kernel
theorem dX6_drop_41 : decode cX6_drop 41 = .ok (.invokevirtual 64, 3) := by decide +kernel
theorem dX6_drop_44 : decode cX6_drop 44 = .ok (.aload_n 0, 1) := by decide +kernel
theorem dX6_drop_45 : decode cX6_drop 45 = .ok (.getfield 10, 3) := by decide +kernel
theorem dX6_drop_48 : decode cX6_drop 48 = .ok (.getfield 43, 3) := by decide +kernel
theorem dX6_drop_51 : decode cX6_drop 51 = .ok (.getfield 47, 3) := by decide +kernel
theorem dX6_drop_54 : decode cX6_drop 54 = .ok (.getfield 51, 3) := by decide +kernel
theorem dX6_drop_57 : decode cX6_drop 57 = .ok (.ireturn, 1) := by decide +kernel
theorem dX6_sweep_0 : decode cX6_sweep 0 = .ok (.aload_n 0, 1) := by decide +kernel
theorem dX6_sweep_1 : decode cX6_sweep 1 = .ok (.iload_n 1, 1) := by decide +kernel
theorem dX6_sweep_2 : decode cX6_sweep 2 = .ok (.invokevirtual 118, 3) := by decide +kernel
theorem dX6_sweep_5 : decode cX6_sweep 5 = .ok (.iload_n 2, 1) := by decide +kernel
theorem dX6_sweep_6 : decode cX6_sweep 6 = .ok (.invokestatic 121, 3) := by decide +kernel
theorem dX6_sweep_9 : decode cX6_sweep 9 = .ok (.ifCond .ne 13, 3) := by decide +kernel
theorem dX6_sweep_12 : decode cX6_sweep 12 = .ok (.new 75, 3) := by decide +kernel
theorem dX6_sweep_15 : decode cX6_sweep 15 = .ok (.dup, 1) := by decide +kernel
theorem dX6_sweep_16 : decode cX6_sweep 16 = .ok (.ldc 125, 2) := by decide +kernel
theorem dX6_sweep_18 : decode cX6_sweep 18 = .ok (.invokespecial 79, 3) := by decide +kernel
theorem dX6_sweep_21 : decode cX6_sweep 21 = .ok (.athrow, 1) := by decide +kernel
theorem dX6_sweep_22 : decode cX6_sweep 22 = .ok (.aload_n 0, 1) := by decide +kernel
theorem dX6_sweep_23 : decode cX6_sweep 23 = .ok (.getfield 29, 3) := by decide +kernel
theorem dX6_sweep_26 : decode cX6_sweep 26 = .ok (.aload_n 0, 1) := by decide +kernel
theorem dX6_sweep_27 : decode cX6_sweep 27 = .ok (.getfield 10, 3) := by decide +kernel
theorem dX6_sweep_30 : decode cX6_sweep 30 = .ok (.getfield 43, 3) := by decide +kernel
theorem dX6_sweep_33 : decode cX6_sweep 33 = .ok (.invokevirtual 57, 3) := by decide +kernel
theorem dX6_sweep_36 : decode cX6_sweep 36 = .ok (.aload_n 0, 1) := by decide +kernel
theorem dX6_sweep_37 : decode cX6_sweep 37 = .ok (.getfield 10, 3) := by decide +kernel
theorem dX6_sweep_40 : decode cX6_sweep 40 = .ok (.getfield 43, 3) := by decide +kernel
theorem dX6_sweep_43 : decode cX6_sweep 43 = .ok (.getfield 47, 3) := by decide +kernel
theorem dX6_sweep_46 : decode cX6_sweep 46 = .ok (.getfield 102, 3) := by decide +kernel
theorem dX6_sweep_49 : decode cX6_sweep 49 = .ok (.astore_n 3, 1) := by decide +kernel
theorem dX6_sweep_50 : decode cX6_sweep 50 = .ok (.iload_n 2, 1) := by decide +kernel
theorem dX6_sweep_51 : decode cX6_sweep 51 = .ok (.aload_n 3, 1) := by decide +kernel
theorem dX6_sweep_52 : decode cX6_sweep 52 = .ok (.iload_n 1, 1) := by decide +kernel
theorem dX6_sweep_53 : decode cX6_sweep 53 = .ok (.iaload, 1) := by decide +kernel
theorem dX6_sweep_54 : decode cX6_sweep 54 = .ok (.isub, 1) := by decide +kernel
theorem dX6_sweep_55 : decode cX6_sweep 55 = .ok (.invokestatic 127, 3) := by decide +kernel
theorem dX6_sweep_58 : decode cX6_sweep 58 = .ok (.istore 4, 2) := by decide +kernel
theorem dX6_sweep_60 : decode cX6_sweep 60 = .ok (.iload_n 2, 1) := by decide +kernel
theorem dX6_sweep_61 : decode cX6_sweep 61 = .ok (.aload_n 3, 1) := by decide +kernel
theorem dX6_sweep_62 : decode cX6_sweep 62 = .ok (.iload_n 1, 1) := by decide +kernel
theorem dX6_sweep_63 : decode cX6_sweep 63 = .ok (.iaload, 1) := by decide +kernel
theorem dX6_sweep_64 : decode cX6_sweep 64 = .ok (.if_icmp .le 7, 3) := by decide +kernel
theorem dX6_sweep_67 : decode cX6_sweep 67 = .ok (.iconst 1, 1) := by decide +kernel
theorem dX6_sweep_68 : decode cX6_sweep 68 = .ok (.goto 4, 3) := by decide +kernel
theorem dX6_sweep_71 : decode cX6_sweep 71 = .ok (.iconst (-1), 1) := by decide +kernel
theorem dX6_sweep_72 : decode cX6_sweep 72 = .ok (.istore 5, 2) := by decide +kernel
theorem dX6_sweep_74 : decode cX6_sweep 74 = .ok (.iconst 0, 1) := by decide +kernel
theorem dX6_sweep_75 : decode cX6_sweep 75 = .ok (.istore 6, 2) := by decide +kernel
theorem dX6_sweep_77 : decode cX6_sweep 77 = .ok (.iconst 0, 1) := by decide +kernel
theorem dX6_sweep_78 : decode cX6_sweep 78 = .ok (.istore 7, 2) := by decide +kernel
theorem dX6_sweep_80 : decode cX6_sweep 80 = .ok (.iload 7, 2) := by decide +kernel
theorem dX6_sweep_82 : decode cX6_sweep 82 = .ok (.iload 4, 2) := by decide +kernel
theorem dX6_sweep_84 : decode cX6_sweep 84 = .ok (.if_icmp .ge 54, 3) := by decide +kernel
theorem dX6_sweep_87 : decode cX6_sweep 87 = .ok (.aload_n 0, 1) := by decide +kernel
theorem dX6_sweep_88 : decode cX6_sweep 88 = .ok (.getfield 10, 3) := by decide +kernel
theorem dX6_sweep_91 : decode cX6_sweep 91 = .ok (.getfield 43, 3) := by decide +kernel
theorem dX6_sweep_94 : decode cX6_sweep 94 = .ok (.getfield 133, 3) := by decide +kernel
theorem dX6_sweep_97 : decode cX6_sweep 97 = .ok (.istore 8, 2) := by decide +kernel
theorem dX6_sweep_99 : decode cX6_sweep 99 = .ok (.aload_n 3, 1) := by decide +kernel
theorem dX6_sweep_100 : decode cX6_sweep 100 = .ok (.iload_n 1, 1) := by decide +kernel
theorem dX6_sweep_101 : decode cX6_sweep 101 = .ok (.dup2, 1) := by decide +kernel
theorem dX6_sweep_102 : decode cX6_sweep 102 = .ok (.iaload, 1) := by decide +kernel
theorem dX6_sweep_103 : decode cX6_sweep 103 = .ok (.iload 5, 2) := by decide +kernel
theorem dX6_sweep_105 : decode cX6_sweep 105 = .ok (.iadd, 1) := by decide +kernel
theorem dX6_sweep_106 : decode cX6_sweep 106 = .ok (.iastore, 1) := by decide +kernel
theorem dX6_sweep_107 : decode cX6_sweep 107 = .ok (.aload_n 0, 1) := by decide +kernel
theorem dX6_sweep_108 : decode cX6_sweep 108 = .ok (.getfield 10, 3) := by decide +kernel
theorem dX6_sweep_111 : decode cX6_sweep 111 = .ok (.invokevirtual 64, 3) := by decide +kernel
theorem dX6_sweep_114 : decode cX6_sweep 114 = .ok (.aload_n 0, 1) := by decide +kernel
theorem dX6_sweep_115 : decode cX6_sweep 115 = .ok (.getfield 10, 3) := by decide +kernel
theorem dX6_sweep_118 : decode cX6_sweep 118 = .ok (.getfield 43, 3) := by decide +kernel
theorem dX6_sweep_121 : decode cX6_sweep 121 = .ok (.getfield 133, 3) := by decide +kernel
theorem dX6_sweep_124 : decode cX6_sweep 124 = .ok (.iload 8, 2) := by decide +kernel
theorem dX6_sweep_126 : decode cX6_sweep 126 = .ok (.if_icmp .eq 6, 3) := by decide +kernel
theorem dX6_sweep_129 : decode cX6_sweep 129 = .ok (.iinc 6 1, 3) := by decide +kernel
theorem dX6_sweep_132 : decode cX6_sweep 132 = .ok (.iinc 7 1, 3) := by decide +kernel
theorem dX6_sweep_135 : decode cX6_sweep 135 = .ok (.goto (-55), 3) := by decide +kernel
theorem dX6_sweep_138 : decode cX6_sweep 138 = .ok (.iload 6, 2) := by decide +kernel
theorem dX6_sweep_140 : decode cX6_sweep 140 = .ok (.ireturn, 1) := by decide +kernel
theorem dX6_undo_0 : decode cX6_undo 0 = .ok (.aload_n 0, 1) := by decide +kernel
theorem dX6_undo_1 : decode cX6_undo 1 = .ok (.getfield 29, 3) := by decide +kernel
theorem dX6_undo_4 : decode cX6_undo 4 = .ok (.getfield 136, 3) := by decide +kernel
theorem dX6_undo_7 : decode cX6_undo 7 = .ok (.ifCond .ne 13, 3) := by decide +kernel
theorem dX6_undo_10 : decode cX6_undo 10 = .ok (.new 86, 3) := by decide +kernel
theorem dX6_undo_13 : decode cX6_undo 13 = .ok (.dup, 1) := by decide +kernel
theorem dX6_undo_14 : decode cX6_undo 14 = .ok (.ldc 137, 2) := by decide +kernel
theorem dX6_undo_16 : decode cX6_undo 16 = .ok (.invokespecial 90, 3) := by decide +kernel
theorem dX6_undo_19 : decode cX6_undo 19 = .ok (.athrow, 1) := by decide +kernel
theorem dX6_undo_20 : decode cX6_undo 20 = .ok (.aload_n 0, 1) := by decide +kernel
theorem dX6_undo_21 : decode cX6_undo 21 = .ok (.getfield 10, 3) := by decide +kernel
theorem dX6_undo_24 : decode cX6_undo 24 = .ok (.aload_n 0, 1) := by decide +kernel
theorem dX6_undo_25 : decode cX6_undo 25 = .ok (.getfield 29, 3) := by decide +kernel
theorem dX6_undo_28 : decode cX6_undo 28 = .ok (.invokevirtual 139, 3) := by decide +kernel
theorem dX6_undo_31 : decode cX6_undo 31 = .ok (.invokevirtual 143, 3) := by decide +kernel
theorem dX6_undo_34 : decode cX6_undo 34 = .ok (.aload_n 0, 1) := by decide +kernel
theorem dX6_undo_35 : decode cX6_undo 35 = .ok (.getfield 29, 3) := by decide +kernel
theorem dX6_undo_38 : decode cX6_undo 38 = .ok (.getfield 136, 3) := by decide +kernel
theorem dX6_undo_41 : decode cX6_undo 41 = .ok (.ireturn, 1) := by decide +kernel
theorem dX6_keep_0 : decode cX6_keep 0 = .ok (.aload_n 0, 1) := by decide +kernel
theorem dX6_keep_1 : decode cX6_keep 1 = .ok (.iload_n 1, 1) := by decide +kernel
theorem dX6_keep_2 : decode cX6_keep 2 = .ok (.invokevirtual 146, 3) := by decide +kernel
theorem dX6_keep_5 : decode cX6_keep 5 = .ok (.aload_n 0, 1) := by decide +kernel
theorem dX6_keep_6 : decode cX6_keep 6 = .ok (.getfield 35, 3) := by decide +kernel
theorem dX6_keep_9 : decode cX6_keep 9 = .ok (.iload_n 1, 1) := by decide +kernel
theorem dX6_keep_10 : decode cX6_keep 10 = .ok (.aaload, 1) := by decide +kernel
theorem dX6_keep_11 : decode cX6_keep 11 = .ok (.aload_n 0, 1) := by decide +kernel
theorem dX6_keep_12 : decode cX6_keep 12 = .ok (.getfield 10, 3) := by decide +kernel
theorem dX6_keep_15 : decode cX6_keep 15 = .ok (.getfield 43, 3) := by decide +kernel
theorem dX6_keep_18 : decode cX6_keep 18 = .ok (.invokevirtual 149, 3) := by decide +kernel
theorem dX6_keep_21 : decode cX6_keep 21 = .ok (.aload_n 0, 1) := by decide +kernel
theorem dX6_keep_22 : decode cX6_keep 22 = .ok (.dup, 1) := by decide +kernel
theorem dX6_keep_23 : decode cX6_keep 23 = .ok (.getfield 152, 3) := by decide +kernel
theorem dX6_keep_26 : decode cX6_keep 26 = .ok (.iconst 1, 1) := by decide +kernel
theorem dX6_keep_27 : decode cX6_keep 27 = .ok (.iload_n 1, 1) := by decide +kernel
theorem dX6_keep_28 : decode cX6_keep 28 = .ok (.ishl, 1) := by decide +kernel
theorem dX6_keep_29 : decode cX6_keep 29 = .ok (.ior, 1) := by decide +kernel
theorem dX6_keep_30 : decode cX6_keep 30 = .ok (.putfield 152, 3) := by decide +kernel
theorem dX6_keep_33 : decode cX6_keep 33 = .ok (.aload_n 0, 1) := by decide +kernel
theorem dX6_keep_34 : decode cX6_keep 34 = .ok (.getfield 10, 3) := by decide +kernel
theorem dX6_keep_37 : decode cX6_keep 37 = .ok (.getfield 43, 3) := by decide +kernel
theorem dX6_keep_40 : decode cX6_keep 40 = .ok (.getfield 47, 3) := by decide +kernel
theorem dX6_keep_43 : decode cX6_keep 43 = .ok (.getfield 51, 3) := by decide +kernel
theorem dX6_keep_46 : decode cX6_keep 46 = .ok (.ireturn, 1) := by decide +kernel
theorem dX6_back_0 : decode cX6_back 0 = .ok (.aload_n 0, 1) := by decide +kernel
theorem dX6_back_1 : decode cX6_back 1 = .ok (.iload_n 1, 1) := by decide +kernel
theorem dX6_back_2 : decode cX6_back 2 = .ok (.invokevirtual 146, 3) := by decide +kernel
theorem dX6_back_5 : decode cX6_back 5 = .ok (.aload_n 0, 1) := by decide +kernel
theorem dX6_back_6 : decode cX6_back 6 = .ok (.getfield 152, 3) := by decide +kernel
theorem dX6_back_9 : decode cX6_back 9 = .ok (.iload_n 1, 1) := by decide +kernel
theorem dX6_back_10 : decode cX6_back 10 = .ok (.invokestatic 155, 3) := by decide +kernel
theorem dX6_back_13 : decode cX6_back 13 = .ok (.ifCond .ne 13, 3) := by decide +kernel
theorem dX6_back_16 : decode cX6_back 16 = .ok (.new 86, 3) := by decide +kernel
theorem dX6_back_19 : decode cX6_back 19 = .ok (.dup, 1) := by decide +kernel
theorem dX6_back_20 : decode cX6_back 20 = .ok (.ldc 159, 2) := by decide +kernel
theorem dX6_back_22 : decode cX6_back 22 = .ok (.invokespecial 90, 3) := by decide +kernel
theorem dX6_back_25 : decode cX6_back 25 = .ok (.athrow, 1) := by decide +kernel
theorem dX6_back_26 : decode cX6_back 26 = .ok (.aload_n 0, 1) := by decide +kernel
theorem dX6_back_27 : decode cX6_back 27 = .ok (.getfield 29, 3) := by decide +kernel
theorem dX6_back_30 : decode cX6_back 30 = .ok (.aload_n 0, 1) := by decide +kernel
theorem dX6_back_31 : decode cX6_back 31 = .ok (.getfield 10, 3) := by decide +kernel
theorem dX6_back_34 : decode cX6_back 34 = .ok (.getfield 43, 3) := by decide +kernel
theorem dX6_back_37 : decode cX6_back 37 = .ok (.invokevirtual 57, 3) := by decide +kernel
theorem dX6_back_40 : decode cX6_back 40 = .ok (.aload_n 0, 1) := by decide +kernel
theorem dX6_back_41 : decode cX6_back 41 = .ok (.getfield 10, 3) := by decide +kernel
theorem dX6_back_44 : decode cX6_back 44 = .ok (.aload_n 0, 1) := by decide +kernel
theorem dX6_back_45 : decode cX6_back 45 = .ok (.getfield 35, 3) := by decide +kernel
theorem dX6_back_48 : decode cX6_back 48 = .ok (.iload_n 1, 1) := by decide +kernel
theorem dX6_back_49 : decode cX6_back 49 = .ok (.aaload, 1) := by decide +kernel
theorem dX6_back_50 : decode cX6_back 50 = .ok (.invokevirtual 143, 3) := by decide +kernel
theorem dX6_back_53 : decode cX6_back 53 = .ok (.aload_n 0, 1) := by decide +kernel
theorem dX6_back_54 : decode cX6_back 54 = .ok (.getfield 10, 3) := by decide +kernel
theorem dX6_back_57 : decode cX6_back 57 = .ok (.getfield 43, 3) := by decide +kernel
theorem dX6_back_60 : decode cX6_back 60 = .ok (.getfield 47, 3) := by decide +kernel
theorem dX6_back_63 : decode cX6_back 63 = .ok (.getfield 51, 3) := by decide +kernel
theorem dX6_back_66 : decode cX6_back 66 = .ok (.ireturn, 1) := by decide +kernel
theorem dX6_append_0 : decode cX6_append 0 = .ok (.iload_n 1, 1) := by decide +kernel
theorem dX6_append_1 : decode cX6_append 1 = .ok (.bipush 32, 2) := by decide +kernel
theorem dX6_append_3 : decode cX6_append 3 = .ok (.if_icmp .lt 9, 3) := by decide +kernel
theorem dX6_append_6 : decode cX6_append 6 = .ok (.iload_n 1, 1) := by decide +kernel
theorem dX6_append_7 : decode cX6_append 7 = .ok (.bipush 126, 2) := by decide +kernel
theorem dX6_append_9 : decode cX6_append 9 = .ok (.if_icmp .le 13, 3) := by decide +kernel
theorem dX6_append_12 : decode cX6_append 12 = .ok (.new 75, 3) := by decide +kernel
theorem dX6_append_15 : decode cX6_append 15 = .ok (.dup, 1) := by decide +kernel
theorem dX6_append_16 : decode cX6_append 16 = .ok (.ldc 161, 2) := by decide +kernel
theorem dX6_append_18 : decode cX6_append 18 = .ok (.invokespecial 79, 3) := by decide +kernel
theorem dX6_append_21 : decode cX6_append 21 = .ok (.athrow, 1) := by decide +kernel
theorem dX6_append_22 : decode cX6_append 22 = .ok (.aload_n 0, 1) := by decide +kernel
theorem dX6_append_23 : decode cX6_append 23 = .ok (.getfield 22, 3) := by decide +kernel
theorem dX6_append_26 : decode cX6_append 26 = .ok (.getfield 95, 3) := by decide +kernel
theorem dX6_append_29 : decode cX6_append 29 = .ok (.bipush 60, 2) := by decide +kernel
theorem dX6_append_31 : decode cX6_append 31 = .ok (.if_icmp .lt 13, 3) := by decide +kernel
theorem dX6_append_34 : decode cX6_append 34 = .ok (.new 86, 3) := by decide +kernel
theorem dX6_append_37 : decode cX6_append 37 = .ok (.dup, 1) := by decide +kernel
theorem dX6_append_38 : decode cX6_append 38 = .ok (.ldc 163, 2) := by decide +kernel
theorem dX6_append_40 : decode cX6_append 40 = .ok (.invokespecial 90, 3) := by decide +kernel
theorem dX6_append_43 : decode cX6_append 43 = .ok (.athrow, 1) := by decide +kernel
theorem dX6_append_44 : decode cX6_append 44 = .ok (.aload_n 0, 1) := by decide +kernel
theorem dX6_append_45 : decode cX6_append 45 = .ok (.getfield 22, 3) := by decide +kernel
theorem dX6_append_48 : decode cX6_append 48 = .ok (.getfield 165, 3) := by decide +kernel
theorem dX6_append_51 : decode cX6_append 51 = .ok (.aload_n 0, 1) := by decide +kernel
theorem dX6_append_52 : decode cX6_append 52 = .ok (.getfield 22, 3) := by decide +kernel
theorem dX6_append_55 : decode cX6_append 55 = .ok (.getfield 95, 3) := by decide +kernel
theorem dX6_append_58 : decode cX6_append 58 = .ok (.iload_n 1, 1) := by decide +kernel
theorem dX6_append_59 : decode cX6_append 59 = .ok (.i2c, 1) := by decide +kernel
theorem dX6_append_60 : decode cX6_append 60 = .ok (.castore, 1) := by decide +kernel
theorem dX6_append_61 : decode cX6_append 61 = .ok (.aload_n 0, 1) := by decide +kernel
theorem dX6_append_62 : decode cX6_append 62 = .ok (.getfield 22, 3) := by decide +kernel
theorem dX6_append_65 : decode cX6_append 65 = .ok (.dup, 1) := by decide +kernel
theorem dX6_append_66 : decode cX6_append 66 = .ok (.getfield 95, 3) := by decide +kernel
theorem dX6_append_69 : decode cX6_append 69 = .ok (.iconst 1, 1) := by decide +kernel
theorem dX6_append_70 : decode cX6_append 70 = .ok (.iadd, 1) := by decide +kernel
theorem dX6_append_71 : decode cX6_append 71 = .ok (.putfield 95, 3) := by decide +kernel
theorem dX6_append_74 : decode cX6_append 74 = .ok (.aload_n 0, 1) := by decide +kernel
theorem dX6_append_75 : decode cX6_append 75 = .ok (.getfield 22, 3) := by decide +kernel
theorem dX6_append_78 : decode cX6_append 78 = .ok (.getfield 95, 3) := by decide +kernel
theorem dX6_append_81 : decode cX6_append 81 = .ok (.ireturn, 1) := by decide +kernel
theorem dX6_clearInput_0 : decode cX6_clearInput 0 = .ok (.aload_n 0, 1) := by decide +kernel
theorem dX6_clearInput_1 : decode cX6_clearInput 1 = .ok (.getfield 22, 3) := by decide +kernel
theorem dX6_clearInput_4 : decode cX6_clearInput 4 = .ok (.getfield 95, 3) := by decide +kernel
theorem dX6_clearInput_7 : decode cX6_clearInput 7 = .ok (.istore_n 1, 1) := by decide +kernel
theorem dX6_clearInput_8 : decode cX6_clearInput 8 = .ok (.aload_n 0, 1) := by decide +kernel
theorem dX6_clearInput_9 : decode cX6_clearInput 9 = .ok (.getfield 22, 3) := by decide +kernel
theorem dX6_clearInput_12 : decode cX6_clearInput 12 = .ok (.iconst 0, 1) := by decide +kernel
theorem dX6_clearInput_13 : decode cX6_clearInput 13 = .ok (.putfield 95, 3) := by decide +kernel
theorem dX6_clearInput_16 : decode cX6_clearInput 16 = .ok (.iload_n 1, 1) := by decide +kernel
theorem dX6_clearInput_17 : decode cX6_clearInput 17 = .ok (.ireturn, 1) := by decide +kernel
theorem dX6_firstError_0 : decode cX6_firstError 0 = .ok (.aload_n 0, 1) := by decide +kernel
theorem dX6_firstError_1 : decode cX6_firstError 1 = .ok (.getfield 22, 3) := by decide +kernel
theorem dX6_firstError_4 : decode cX6_firstError 4 = .ok (.invokevirtual 169, 3) := by decide +kernel
theorem dX6_firstError_7 : decode cX6_firstError 7 = .ok (.ireturn, 1) := by decide +kernel
theorem dX6_voltage_0 : decode cX6_voltage 0 = .ok (.iload_n 1, 1) := by decide +kernel
theorem dX6_voltage_1 : decode cX6_voltage 1 = .ok (.invokestatic 173, 3) := by decide +kernel
theorem dX6_voltage_4 : decode cX6_voltage 4 = .ok (.iload_n 2, 1) := by decide +kernel
theorem dX6_voltage_5 : decode cX6_voltage 5 = .ok (.invokestatic 176, 3) := by decide +kernel
theorem dX6_voltage_8 : decode cX6_voltage 8 = .ok (.aload_n 0, 1) := by decide +kernel
theorem dX6_voltage_9 : decode cX6_voltage 9 = .ok (.getfield 10, 3) := by decide +kernel
theorem dX6_voltage_12 : decode cX6_voltage 12 = .ok (.getfield 43, 3) := by decide +kernel
theorem dX6_voltage_15 : decode cX6_voltage 15 = .ok (.getfield 179, 3) := by decide +kernel
theorem dX6_voltage_18 : decode cX6_voltage 18 = .ok (.ifCond .ne 5, 3) := by decide +kernel
theorem dX6_voltage_21 : decode cX6_voltage 21 = .ok (.lconst 0, 1) := by decide +kernel
theorem dX6_voltage_22 : decode cX6_voltage 22 = .ok (.lreturn, 1) := by decide +kernel
theorem dX6_voltage_23 : decode cX6_voltage 23 = .ok (.aload_n 0, 1) := by decide +kernel
theorem dX6_voltage_24 : decode cX6_voltage 24 = .ok (.getfield 10, 3) := by decide +kernel
theorem dX6_voltage_27 : decode cX6_voltage 27 = .ok (.aload_n 0, 1) := by decide +kernel
theorem dX6_voltage_28 : decode cX6_voltage 28 = .ok (.getfield 10, 3) := by decide +kernel
theorem dX6_voltage_31 : decode cX6_voltage 31 = .ok (.getfield 43, 3) := by decide +kernel
theorem dX6_voltage_34 : decode cX6_voltage 34 = .ok (.getfield 133, 3) := by decide +kernel
theorem dX6_voltage_37 : decode cX6_voltage 37 = .ok (.iload_n 1, 1) := by decide +kernel
theorem dX6_voltage_38 : decode cX6_voltage 38 = .ok (.iload_n 2, 1) := by decide +kernel
theorem dX6_voltage_39 : decode cX6_voltage 39 = .ok (.invokevirtual 183, 3) := by decide +kernel
theorem dX6_voltage_42 : decode cX6_voltage 42 = .ok (.lreturn, 1) := by decide +kernel
theorem dX6_current_0 : decode cX6_current 0 = .ok (.aload_n 0, 1) := by decide +kernel
theorem dX6_current_1 : decode cX6_current 1 = .ok (.iload_n 1, 1) := by decide +kernel
theorem dX6_current_2 : decode cX6_current 2 = .ok (.invokevirtual 111, 3) := by decide +kernel
theorem dX6_current_5 : decode cX6_current 5 = .ok (.aload_n 0, 1) := by decide +kernel
theorem dX6_current_6 : decode cX6_current 6 = .ok (.getfield 10, 3) := by decide +kernel
theorem dX6_current_9 : decode cX6_current 9 = .ok (.getfield 43, 3) := by decide +kernel
theorem dX6_current_12 : decode cX6_current 12 = .ok (.getfield 47, 3) := by decide +kernel
theorem dX6_current_15 : decode cX6_current 15 = .ok (.astore_n 3, 1) := by decide +kernel
theorem dX6_current_16 : decode cX6_current 16 = .ok (.aload_n 3, 1) := by decide +kernel
theorem dX6_current_17 : decode cX6_current 17 = .ok (.getfield 187, 3) := by decide +kernel
theorem dX6_current_20 : decode cX6_current 20 = .ok (.iload_n 1, 1) := by decide +kernel
theorem dX6_current_21 : decode cX6_current 21 = .ok (.iaload, 1) := by decide +kernel
theorem dX6_current_22 : decode cX6_current 22 = .ok (.ifCond .eq 13, 3) := by decide +kernel
theorem dX6_current_25 : decode cX6_current 25 = .ok (.new 86, 3) := by decide +kernel
theorem dX6_current_28 : decode cX6_current 28 = .ok (.dup, 1) := by decide +kernel
theorem dX6_current_29 : decode cX6_current 29 = .ok (.ldc 190, 2) := by decide +kernel
theorem dX6_current_31 : decode cX6_current 31 = .ok (.invokespecial 90, 3) := by decide +kernel
theorem dX6_current_34 : decode cX6_current 34 = .ok (.athrow, 1) := by decide +kernel
theorem dX6_current_35 : decode cX6_current 35 = .ok (.iload_n 2, 1) := by decide +kernel
theorem dX6_current_36 : decode cX6_current 36 = .ok (.invokestatic 176, 3) := by decide +kernel
theorem dX6_current_39 : decode cX6_current 39 = .ok (.aload_n 0, 1) := by decide +kernel
theorem dX6_current_40 : decode cX6_current 40 = .ok (.getfield 10, 3) := by decide +kernel
theorem dX6_current_43 : decode cX6_current 43 = .ok (.getfield 43, 3) := by decide +kernel
theorem dX6_current_46 : decode cX6_current 46 = .ok (.getfield 179, 3) := by decide +kernel
theorem dX6_current_49 : decode cX6_current 49 = .ok (.ifCond .ne 5, 3) := by decide +kernel
theorem dX6_current_52 : decode cX6_current 52 = .ok (.lconst 0, 1) := by decide +kernel
theorem dX6_current_53 : decode cX6_current 53 = .ok (.lreturn, 1) := by decide +kernel
theorem dX6_current_54 : decode cX6_current 54 = .ok (.aload_n 0, 1) := by decide +kernel
theorem dX6_current_55 : decode cX6_current 55 = .ok (.getfield 10, 3) := by decide +kernel
theorem dX6_current_58 : decode cX6_current 58 = .ok (.aload_n 0, 1) := by decide +kernel
theorem dX6_current_59 : decode cX6_current 59 = .ok (.getfield 10, 3) := by decide +kernel
theorem dX6_current_62 : decode cX6_current 62 = .ok (.getfield 43, 3) := by decide +kernel
theorem dX6_current_65 : decode cX6_current 65 = .ok (.getfield 133, 3) := by decide +kernel
theorem dX6_current_68 : decode cX6_current 68 = .ok (.invokevirtual 192, 3) := by decide +kernel
theorem dX6_current_71 : decode cX6_current 71 = .ok (.aload_n 0, 1) := by decide +kernel
theorem dX6_current_72 : decode cX6_current 72 = .ok (.getfield 10, 3) := by decide +kernel
theorem dX6_current_75 : decode cX6_current 75 = .ok (.aload_n 3, 1) := by decide +kernel
theorem dX6_current_76 : decode cX6_current 76 = .ok (.getfield 195, 3) := by decide +kernel
theorem dX6_current_79 : decode cX6_current 79 = .ok (.iload_n 1, 1) := by decide +kernel
theorem dX6_current_80 : decode cX6_current 80 = .ok (.iaload, 1) := by decide +kernel
theorem dX6_current_81 : decode cX6_current 81 = .ok (.invokevirtual 198, 3) := by decide +kernel
theorem dX6_current_84 : decode cX6_current 84 = .ok (.aload_n 0, 1) := by decide +kernel
theorem dX6_current_85 : decode cX6_current 85 = .ok (.getfield 10, 3) := by decide +kernel
theorem dX6_current_88 : decode cX6_current 88 = .ok (.aload_n 3, 1) := by decide +kernel
theorem dX6_current_89 : decode cX6_current 89 = .ok (.getfield 202, 3) := by decide +kernel
theorem dX6_current_92 : decode cX6_current 92 = .ok (.iload_n 1, 1) := by decide +kernel
theorem dX6_current_93 : decode cX6_current 93 = .ok (.iaload, 1) := by decide +kernel
theorem dX6_current_94 : decode cX6_current 94 = .ok (.invokevirtual 198, 3) := by decide +kernel
theorem dX6_current_97 : decode cX6_current 97 = .ok (.lsub, 1) := by decide +kernel
theorem dX6_current_98 : decode cX6_current 98 = .ok (.lstore 4, 2) := by decide +kernel
theorem dX6_current_100 : decode cX6_current 100 = .ok (.aload_n 3, 1) := by decide +kernel
theorem dX6_current_101 : decode cX6_current 101 = .ok (.getfield 102, 3) := by decide +kernel
theorem dX6_current_104 : decode cX6_current 104 = .ok (.iload_n 1, 1) := by decide +kernel
theorem dX6_current_105 : decode cX6_current 105 = .ok (.iaload, 1) := by decide +kernel
theorem dX6_current_106 : decode cX6_current 106 = .ok (.i2l, 1) := by decide +kernel
theorem dX6_current_107 : decode cX6_current 107 = .ok (.lload 4, 2) := by decide +kernel
theorem dX6_current_109 : decode cX6_current 109 = .ok (.lmul, 1) := by decide +kernel
theorem dX6_current_110 : decode cX6_current 110 = .ok (.aload_n 0, 1) := by decide +kernel
theorem dX6_current_111 : decode cX6_current 111 = .ok (.getfield 10, 3) := by decide +kernel
theorem dX6_current_114 : decode cX6_current 114 = .ok (.invokevirtual 205, 3) := by decide +kernel
theorem dX6_current_117 : decode cX6_current 117 = .ok (.iload_n 2, 1) := by decide +kernel
theorem dX6_current_118 : decode cX6_current 118 = .ok (.invokestatic 209, 3) := by decide +kernel
theorem dX6_current_121 : decode cX6_current 121 = .ok (.lreturn, 1) := by decide +kernel
theorem dX6_amplifier_0 : decode cX6_amplifier 0 = .ok (.iload_n 1, 1) := by decide +kernel
theorem dX6_amplifier_1 : decode cX6_amplifier 1 = .ok (.ifCond .lt 14, 3) := by decide +kernel
theorem dX6_amplifier_4 : decode cX6_amplifier 4 = .ok (.iload_n 1, 1) := by decide +kernel
theorem dX6_amplifier_5 : decode cX6_amplifier 5 = .ok (.aload_n 0, 1) := by decide +kernel
theorem dX6_amplifier_6 : decode cX6_amplifier 6 = .ok (.getfield 10, 3) := by decide +kernel
theorem dX6_amplifier_9 : decode cX6_amplifier 9 = .ok (.getfield 213, 3) := by decide +kernel
theorem dX6_amplifier_12 : decode cX6_amplifier 12 = .ok (.if_icmp .lt 13, 3) := by decide +kernel
theorem dX6_amplifier_15 : decode cX6_amplifier 15 = .ok (.new 216, 3) := by decide +kernel
theorem dX6_amplifier_18 : decode cX6_amplifier 18 = .ok (.dup, 1) := by decide +kernel
theorem dX6_amplifier_19 : decode cX6_amplifier 19 = .ok (.ldc 218, 2) := by decide +kernel
theorem dX6_amplifier_21 : decode cX6_amplifier 21 = .ok (.invokespecial 220, 3) := by decide +kernel
theorem dX6_amplifier_24 : decode cX6_amplifier 24 = .ok (.athrow, 1) := by decide +kernel
theorem dX6_amplifier_25 : decode cX6_amplifier 25 = .ok (.iload_n 2, 1) := by decide +kernel
theorem dX6_amplifier_26 : decode cX6_amplifier 26 = .ok (.tableswitch 77 0 2 #[26, 36, 51], 26) := by decide +kernel
theorem dX6_amplifier_52 : decode cX6_amplifier 52 = .ok (.aload_n 0, 1) := by decide +kernel
theorem dX6_amplifier_53 : decode cX6_amplifier 53 = .ok (.getfield 10, 3) := by decide +kernel
theorem dX6_amplifier_56 : decode cX6_amplifier 56 = .ok (.getfield 221, 3) := by decide +kernel
theorem dX6_amplifier_59 : decode cX6_amplifier 59 = .ok (.iload_n 1, 1) := by decide +kernel
theorem dX6_amplifier_60 : decode cX6_amplifier 60 = .ok (.iaload, 1) := by decide +kernel
theorem dX6_amplifier_61 : decode cX6_amplifier 61 = .ok (.ireturn, 1) := by decide +kernel
theorem dX6_amplifier_62 : decode cX6_amplifier 62 = .ok (.aload_n 0, 1) := by decide +kernel
theorem dX6_amplifier_63 : decode cX6_amplifier 63 = .ok (.getfield 10, 3) := by decide +kernel
theorem dX6_amplifier_66 : decode cX6_amplifier 66 = .ok (.getfield 43, 3) := by decide +kernel
theorem dX6_amplifier_69 : decode cX6_amplifier 69 = .ok (.getfield 133, 3) := by decide +kernel
theorem dX6_amplifier_72 : decode cX6_amplifier 72 = .ok (.iload_n 1, 1) := by decide +kernel
theorem dX6_amplifier_73 : decode cX6_amplifier 73 = .ok (.invokestatic 224, 3) := by decide +kernel
theorem dX6_amplifier_76 : decode cX6_amplifier 76 = .ok (.ireturn, 1) := by decide +kernel
theorem dX6_amplifier_77 : decode cX6_amplifier 77 = .ok (.aload_n 0, 1) := by decide +kernel
theorem dX6_amplifier_78 : decode cX6_amplifier 78 = .ok (.getfield 10, 3) := by decide +kernel
theorem dX6_amplifier_81 : decode cX6_amplifier 81 = .ok (.getfield 43, 3) := by decide +kernel
theorem dX6_amplifier_84 : decode cX6_amplifier 84 = .ok (.getfield 179, 3) := by decide +kernel
theorem dX6_amplifier_87 : decode cX6_amplifier 87 = .ok (.ifCond .eq 14, 3) := by decide +kernel
theorem dX6_amplifier_90 : decode cX6_amplifier 90 = .ok (.aload_n 0, 1) := by decide +kernel
theorem dX6_amplifier_91 : decode cX6_amplifier 91 = .ok (.getfield 10, 3) := by decide +kernel
theorem dX6_amplifier_94 : decode cX6_amplifier 94 = .ok (.iload_n 1, 1) := by decide +kernel
theorem dX6_amplifier_95 : decode cX6_amplifier 95 = .ok (.invokevirtual 228, 3) := by decide +kernel
theorem dX6_amplifier_98 : decode cX6_amplifier 98 = .ok (.goto 4, 3) := by decide +kernel
theorem dX6_amplifier_101 : decode cX6_amplifier 101 = .ok (.iconst 0, 1) := by decide +kernel
theorem dX6_amplifier_102 : decode cX6_amplifier 102 = .ok (.ireturn, 1) := by decide +kernel
theorem dX6_amplifier_103 : decode cX6_amplifier 103 = .ok (.new 75, 3) := by decide +kernel
theorem dX6_amplifier_106 : decode cX6_amplifier 106 = .ok (.dup, 1) := by decide +kernel
theorem dX6_amplifier_107 : decode cX6_amplifier 107 = .ok (.ldc 231, 2) := by decide +kernel
theorem dX6_amplifier_109 : decode cX6_amplifier 109 = .ok (.invokespecial 79, 3) := by decide +kernel
theorem dX6_amplifier_112 : decode cX6_amplifier 112 = .ok (.athrow, 1) := by decide +kernel
theorem dX6_why_0 : decode cX6_why 0 = .ok (.aload_n 0, 1) := by decide +kernel
theorem dX6_why_1 : decode cX6_why 1 = .ok (.iload_n 1, 1) := by decide +kernel
theorem dX6_why_2 : decode cX6_why 2 = .ok (.invokevirtual 233, 3) := by decide +kernel
theorem dX6_why_5 : decode cX6_why 5 = .ok (.aload_n 0, 1) := by decide +kernel
theorem dX6_why_6 : decode cX6_why 6 = .ok (.getfield 10, 3) := by decide +kernel
theorem dX6_why_9 : decode cX6_why 9 = .ok (.iload_n 1, 1) := by decide +kernel
theorem dX6_why_10 : decode cX6_why 10 = .ok (.invokevirtual 236, 3) := by decide +kernel
theorem dX6_why_13 : decode cX6_why 13 = .ok (.aload_n 0, 1) := by decide +kernel
theorem dX6_why_14 : decode cX6_why 14 = .ok (.getfield 10, 3) := by decide +kernel
theorem dX6_why_17 : decode cX6_why 17 = .ok (.getfield 239, 3) := by decide +kernel
theorem dX6_why_20 : decode cX6_why 20 = .ok (.ireturn, 1) := by decide +kernel
theorem dX6_concerned_0 : decode cX6_concerned 0 = .ok (.aload_n 0, 1) := by decide +kernel
theorem dX6_concerned_1 : decode cX6_concerned 1 = .ok (.iload_n 1, 1) := by decide +kernel
theorem dX6_concerned_2 : decode cX6_concerned 2 = .ok (.invokevirtual 233, 3) := by decide +kernel
theorem dX6_concerned_5 : decode cX6_concerned 5 = .ok (.aload_n 0, 1) := by decide +kernel
theorem dX6_concerned_6 : decode cX6_concerned 6 = .ok (.getfield 10, 3) := by decide +kernel
theorem dX6_concerned_9 : decode cX6_concerned 9 = .ok (.iload_n 1, 1) := by decide +kernel
theorem dX6_concerned_10 : decode cX6_concerned 10 = .ok (.invokevirtual 236, 3) := by decide +kernel
theorem dX6_concerned_13 : decode cX6_concerned 13 = .ok (.aload_n 0, 1) := by decide +kernel
theorem dX6_concerned_14 : decode cX6_concerned 14 = .ok (.getfield 10, 3) := by decide +kernel
theorem dX6_concerned_17 : decode cX6_concerned 17 = .ok (.getfield 242, 3) := by decide +kernel
theorem dX6_concerned_20 : decode cX6_concerned 20 = .ok (.ireturn, 1) := by decide +kernel
theorem dX6_inCase_0 : decode cX6_inCase 0 = .ok (.aload_n 0, 1) := by decide +kernel
theorem dX6_inCase_1 : decode cX6_inCase 1 = .ok (.iload_n 1, 1) := by decide +kernel
theorem dX6_inCase_2 : decode cX6_inCase 2 = .ok (.invokevirtual 233, 3) := by decide +kernel
theorem dX6_inCase_5 : decode cX6_inCase 5 = .ok (.iload_n 2, 1) := by decide +kernel
theorem dX6_inCase_6 : decode cX6_inCase 6 = .ok (.invokestatic 173, 3) := by decide +kernel
theorem dX6_inCase_9 : decode cX6_inCase 9 = .ok (.iload_n 3, 1) := by decide +kernel
theorem dX6_inCase_10 : decode cX6_inCase 10 = .ok (.invokestatic 176, 3) := by decide +kernel
theorem dX6_inCase_13 : decode cX6_inCase 13 = .ok (.aload_n 0, 1) := by decide +kernel
theorem dX6_inCase_14 : decode cX6_inCase 14 = .ok (.getfield 10, 3) := by decide +kernel
theorem dX6_inCase_17 : decode cX6_inCase 17 = .ok (.iload_n 1, 1) := by decide +kernel
theorem dX6_inCase_18 : decode cX6_inCase 18 = .ok (.iload_n 2, 1) := by decide +kernel
theorem dX6_inCase_19 : decode cX6_inCase 19 = .ok (.iload_n 3, 1) := by decide +kernel
theorem dX6_inCase_20 : decode cX6_inCase 20 = .ok (.invokevirtual 183, 3) := by decide +kernel
theorem dX6_inCase_23 : decode cX6_inCase 23 = .ok (.lreturn, 1) := by decide +kernel
theorem dX6_trip_0 : decode cX6_trip 0 = .ok (.aload_n 0, 1) := by decide +kernel
theorem dX6_trip_1 : decode cX6_trip 1 = .ok (.iload_n 1, 1) := by decide +kernel
theorem dX6_trip_2 : decode cX6_trip 2 = .ok (.invokevirtual 118, 3) := by decide +kernel
theorem dX6_trip_5 : decode cX6_trip 5 = .ok (.aload_n 0, 1) := by decide +kernel
theorem dX6_trip_6 : decode cX6_trip 6 = .ok (.getfield 16, 3) := by decide +kernel
theorem dX6_trip_9 : decode cX6_trip 9 = .ok (.aload_n 0, 1) := by decide +kernel
theorem dX6_trip_10 : decode cX6_trip 10 = .ok (.getfield 10, 3) := by decide +kernel
theorem dX6_trip_13 : decode cX6_trip 13 = .ok (.getfield 43, 3) := by decide +kernel
theorem dX6_trip_16 : decode cX6_trip 16 = .ok (.invokevirtual 143, 3) := by decide +kernel
theorem dX6_trip_19 : decode cX6_trip 19 = .ok (.aload_n 0, 1) := by decide +kernel
theorem dX6_trip_20 : decode cX6_trip 20 = .ok (.getfield 16, 3) := by decide +kernel
theorem dX6_trip_23 : decode cX6_trip 23 = .ok (.getfield 43, 3) := by decide +kernel
theorem dX6_trip_26 : decode cX6_trip 26 = .ok (.getfield 47, 3) := by decide +kernel
theorem dX6_trip_29 : decode cX6_trip 29 = .ok (.getfield 102, 3) := by decide +kernel
theorem dX6_trip_32 : decode cX6_trip 32 = .ok (.astore_n 3, 1) := by decide +kernel
theorem dX6_trip_33 : decode cX6_trip 33 = .ok (.iload_n 2, 1) := by decide +kernel
theorem dX6_trip_34 : decode cX6_trip 34 = .ok (.ifCond .eq 7, 3) := by decide +kernel
theorem dX6_trip_37 : decode cX6_trip 37 = .ok (.iconst 1, 1) := by decide +kernel
theorem dX6_trip_38 : decode cX6_trip 38 = .ok (.goto 4, 3) := by decide +kernel
theorem dX6_trip_41 : decode cX6_trip 41 = .ok (.iconst (-1), 1) := by decide +kernel
theorem dX6_trip_42 : decode cX6_trip 42 = .ok (.istore 4, 2) := by decide +kernel
theorem dX6_trip_44 : decode cX6_trip 44 = .ok (.sipush 200, 3) := by decide +kernel
theorem dX6_trip_47 : decode cX6_trip 47 = .ok (.iload 4, 2) := by decide +kernel
theorem dX6_trip_49 : decode cX6_trip 49 = .ok (.aload_n 3, 1) := by decide +kernel
theorem dX6_trip_50 : decode cX6_trip 50 = .ok (.iload_n 1, 1) := by decide +kernel
theorem dX6_trip_51 : decode cX6_trip 51 = .ok (.iaload, 1) := by decide +kernel
theorem dX6_trip_52 : decode cX6_trip 52 = .ok (.imul, 1) := by decide +kernel
theorem dX6_trip_53 : decode cX6_trip 53 = .ok (.isub, 1) := by decide +kernel
theorem dX6_trip_54 : decode cX6_trip 54 = .ok (.istore 5, 2) := by decide +kernel
theorem dX6_trip_56 : decode cX6_trip 56 = .ok (.iconst 0, 1) := by decide +kernel
theorem dX6_trip_57 : decode cX6_trip 57 = .ok (.istore 6, 2) := by decide +kernel
theorem dX6_trip_59 : decode cX6_trip 59 = .ok (.iload 6, 2) := by decide +kernel
theorem dX6_trip_61 : decode cX6_trip 61 = .ok (.iload 5, 2) := by decide +kernel
theorem dX6_trip_63 : decode cX6_trip 63 = .ok (.if_icmp .ge 55, 3) := by decide +kernel
theorem dX6_trip_66 : decode cX6_trip 66 = .ok (.aload_n 3, 1) := by decide +kernel
theorem dX6_trip_67 : decode cX6_trip 67 = .ok (.iload_n 1, 1) := by decide +kernel
theorem dX6_trip_68 : decode cX6_trip 68 = .ok (.dup2, 1) := by decide +kernel
theorem dX6_trip_69 : decode cX6_trip 69 = .ok (.iaload, 1) := by decide +kernel
theorem dX6_trip_70 : decode cX6_trip 70 = .ok (.iload 4, 2) := by decide +kernel
theorem dX6_trip_72 : decode cX6_trip 72 = .ok (.iadd, 1) := by decide +kernel
theorem dX6_trip_73 : decode cX6_trip 73 = .ok (.iastore, 1) := by decide +kernel
theorem dX6_trip_74 : decode cX6_trip 74 = .ok (.aload_n 0, 1) := by decide +kernel
theorem dX6_trip_75 : decode cX6_trip 75 = .ok (.getfield 16, 3) := by decide +kernel
theorem dX6_trip_78 : decode cX6_trip 78 = .ok (.invokevirtual 64, 3) := by decide +kernel
theorem dX6_trip_81 : decode cX6_trip 81 = .ok (.aload_n 0, 1) := by decide +kernel
theorem dX6_trip_82 : decode cX6_trip 82 = .ok (.getfield 16, 3) := by decide +kernel
theorem dX6_trip_85 : decode cX6_trip 85 = .ok (.getfield 43, 3) := by decide +kernel
theorem dX6_trip_88 : decode cX6_trip 88 = .ok (.getfield 133, 3) := by decide +kernel
theorem dX6_trip_91 : decode cX6_trip 91 = .ok (.aload_n 0, 1) := by decide +kernel
theorem dX6_trip_92 : decode cX6_trip 92 = .ok (.getfield 10, 3) := by decide +kernel
theorem dX6_trip_95 : decode cX6_trip 95 = .ok (.getfield 43, 3) := by decide +kernel
theorem dX6_trip_98 : decode cX6_trip 98 = .ok (.getfield 133, 3) := by decide +kernel
theorem dX6_trip_101 : decode cX6_trip 101 = .ok (.if_icmp .eq 11, 3) := by decide +kernel
theorem dX6_trip_104 : decode cX6_trip 104 = .ok (.aload_n 3, 1) := by decide +kernel
theorem dX6_trip_105 : decode cX6_trip 105 = .ok (.iload_n 1, 1) := by decide +kernel
theorem dX6_trip_106 : decode cX6_trip 106 = .ok (.iaload, 1) := by decide +kernel
theorem dX6_trip_107 : decode cX6_trip 107 = .ok (.sipush 1000, 3) := by decide +kernel
theorem dX6_trip_110 : decode cX6_trip 110 = .ok (.iadd, 1) := by decide +kernel
theorem dX6_trip_111 : decode cX6_trip 111 = .ok (.ireturn, 1) := by decide +kernel
theorem dX6_trip_112 : decode cX6_trip 112 = .ok (.iinc 6 1, 3) := by decide +kernel
theorem dX6_trip_115 : decode cX6_trip 115 = .ok (.goto (-56), 3) := by decide +kernel
theorem dX6_trip_118 : decode cX6_trip 118 = .ok (.iconst (-1), 1) := by decide +kernel
theorem dX6_trip_119 : decode cX6_trip 119 = .ok (.ireturn, 1) := by decide +kernel
theorem dX6_ifValue_0 : decode cX6_ifValue 0 = .ok (.aload_n 0, 1) := by decide +kernel
theorem dX6_ifValue_1 : decode cX6_ifValue 1 = .ok (.iload_n 1, 1) := by decide +kernel
theorem dX6_ifValue_2 : decode cX6_ifValue 2 = .ok (.iload_n 2, 1) := by decide +kernel
theorem dX6_ifValue_3 : decode cX6_ifValue 3 = .ok (.invokevirtual 98, 3) := by decide +kernel
theorem dX6_ifValue_6 : decode cX6_ifValue 6 = .ok (.aload_n 0, 1) := by decide +kernel
theorem dX6_ifValue_7 : decode cX6_ifValue 7 = .ok (.getfield 16, 3) := by decide +kernel
theorem dX6_ifValue_10 : decode cX6_ifValue 10 = .ok (.getfield 43, 3) := by decide +kernel
theorem dX6_ifValue_13 : decode cX6_ifValue 13 = .ok (.aload_n 0, 1) := by decide +kernel
theorem dX6_ifValue_14 : decode cX6_ifValue 14 = .ok (.getfield 10, 3) := by decide +kernel
theorem dX6_ifValue_17 : decode cX6_ifValue 17 = .ok (.getfield 43, 3) := by decide +kernel
theorem dX6_ifValue_20 : decode cX6_ifValue 20 = .ok (.invokevirtual 149, 3) := by decide +kernel
theorem dX6_ifValue_23 : decode cX6_ifValue 23 = .ok (.aload_n 0, 1) := by decide +kernel
theorem dX6_ifValue_24 : decode cX6_ifValue 24 = .ok (.getfield 16, 3) := by decide +kernel
theorem dX6_ifValue_27 : decode cX6_ifValue 27 = .ok (.getfield 43, 3) := by decide +kernel
theorem dX6_ifValue_30 : decode cX6_ifValue 30 = .ok (.getfield 47, 3) := by decide +kernel
theorem dX6_ifValue_33 : decode cX6_ifValue 33 = .ok (.getfield 102, 3) := by decide +kernel
theorem dX6_ifValue_36 : decode cX6_ifValue 36 = .ok (.iload_n 1, 1) := by decide +kernel
theorem dX6_ifValue_37 : decode cX6_ifValue 37 = .ok (.iload_n 2, 1) := by decide +kernel
theorem dX6_ifValue_38 : decode cX6_ifValue 38 = .ok (.iastore, 1) := by decide +kernel
theorem dX6_ifValue_39 : decode cX6_ifValue 39 = .ok (.aload_n 0, 1) := by decide +kernel
theorem dX6_ifValue_40 : decode cX6_ifValue 40 = .ok (.getfield 16, 3) := by decide +kernel
theorem dX6_ifValue_43 : decode cX6_ifValue 43 = .ok (.invokevirtual 40, 3) := by decide +kernel
theorem dX6_ifValue_46 : decode cX6_ifValue 46 = .ok (.aload_n 0, 1) := by decide +kernel
theorem dX6_ifValue_47 : decode cX6_ifValue 47 = .ok (.getfield 16, 3) := by decide +kernel
theorem dX6_ifValue_50 : decode cX6_ifValue 50 = .ok (.invokevirtual 64, 3) := by decide +kernel
theorem dX6_ifValue_53 : decode cX6_ifValue 53 = .ok (.aload_n 0, 1) := by decide +kernel
theorem dX6_ifValue_54 : decode cX6_ifValue 54 = .ok (.getfield 16, 3) := by decide +kernel
theorem dX6_ifValue_57 : decode cX6_ifValue 57 = .ok (.getfield 43, 3) := by decide +kernel
theorem dX6_ifValue_60 : decode cX6_ifValue 60 = .ok (.getfield 179, 3) := by decide +kernel
theorem dX6_ifValue_63 : decode cX6_ifValue 63 = .ok (.ifCond .eq 16, 3) := by decide +kernel
theorem dX6_ifValue_66 : decode cX6_ifValue 66 = .ok (.aload_n 0, 1) := by decide +kernel
theorem dX6_ifValue_67 : decode cX6_ifValue 67 = .ok (.getfield 16, 3) := by decide +kernel
theorem dX6_ifValue_70 : decode cX6_ifValue 70 = .ok (.getfield 43, 3) := by decide +kernel
theorem dX6_ifValue_73 : decode cX6_ifValue 73 = .ok (.getfield 133, 3) := by decide +kernel
theorem dX6_ifValue_76 : decode cX6_ifValue 76 = .ok (.goto 4, 3) := by decide +kernel
theorem dX6_ifValue_79 : decode cX6_ifValue 79 = .ok (.iconst (-1), 1) := by decide +kernel
theorem dX6_ifValue_80 : decode cX6_ifValue 80 = .ok (.ireturn, 1) := by decide +kernel
theorem dX6_part_0 : decode cX6_part 0 = .ok (.aload_n 0, 1) := by decide +kernel
theorem dX6_part_1 : decode cX6_part 1 = .ok (.iload_n 1, 1) := by decide +kernel
theorem dX6_part_2 : decode cX6_part 2 = .ok (.invokevirtual 111, 3) := by decide +kernel
theorem dX6_part_5 : decode cX6_part 5 = .ok (.iload_n 2, 1) := by decide +kernel
theorem dX6_part_6 : decode cX6_part 6 = .ok (.tableswitch 94 0 3 #[30, 46, 62, 78], 30) := by decide +kernel
theorem dX6_part_36 : decode cX6_part 36 = .ok (.aload_n 0, 1) := by decide +kernel
theorem dX6_part_37 : decode cX6_part 37 = .ok (.getfield 10, 3) := by decide +kernel
theorem dX6_part_40 : decode cX6_part 40 = .ok (.getfield 43, 3) := by decide +kernel
theorem dX6_part_43 : decode cX6_part 43 = .ok (.getfield 47, 3) := by decide +kernel
theorem dX6_part_46 : decode cX6_part 46 = .ok (.getfield 187, 3) := by decide +kernel
theorem dX6_part_49 : decode cX6_part 49 = .ok (.iload_n 1, 1) := by decide +kernel
theorem dX6_part_50 : decode cX6_part 50 = .ok (.iaload, 1) := by decide +kernel
theorem dX6_part_51 : decode cX6_part 51 = .ok (.ireturn, 1) := by decide +kernel
theorem dX6_part_52 : decode cX6_part 52 = .ok (.aload_n 0, 1) := by decide +kernel
theorem dX6_part_53 : decode cX6_part 53 = .ok (.getfield 10, 3) := by decide +kernel
theorem dX6_part_56 : decode cX6_part 56 = .ok (.getfield 43, 3) := by decide +kernel
theorem dX6_part_59 : decode cX6_part 59 = .ok (.getfield 47, 3) := by decide +kernel
theorem dX6_part_62 : decode cX6_part 62 = .ok (.getfield 195, 3) := by decide +kernel
theorem dX6_part_65 : decode cX6_part 65 = .ok (.iload_n 1, 1) := by decide +kernel
theorem dX6_part_66 : decode cX6_part 66 = .ok (.iaload, 1) := by decide +kernel
theorem dX6_part_67 : decode cX6_part 67 = .ok (.ireturn, 1) := by decide +kernel
theorem dX6_part_68 : decode cX6_part 68 = .ok (.aload_n 0, 1) := by decide +kernel
theorem dX6_part_69 : decode cX6_part 69 = .ok (.getfield 10, 3) := by decide +kernel
theorem dX6_part_72 : decode cX6_part 72 = .ok (.getfield 43, 3) := by decide +kernel
theorem dX6_part_75 : decode cX6_part 75 = .ok (.getfield 47, 3) := by decide +kernel
theorem dX6_part_78 : decode cX6_part 78 = .ok (.getfield 202, 3) := by decide +kernel
theorem dX6_part_81 : decode cX6_part 81 = .ok (.iload_n 1, 1) := by decide +kernel
theorem dX6_part_82 : decode cX6_part 82 = .ok (.iaload, 1) := by decide +kernel
theorem dX6_part_83 : decode cX6_part 83 = .ok (.ireturn, 1) := by decide +kernel
theorem dX6_part_84 : decode cX6_part 84 = .ok (.aload_n 0, 1) := by decide +kernel
theorem dX6_part_85 : decode cX6_part 85 = .ok (.getfield 10, 3) := by decide +kernel
theorem dX6_part_88 : decode cX6_part 88 = .ok (.getfield 43, 3) := by decide +kernel
theorem dX6_part_91 : decode cX6_part 91 = .ok (.getfield 47, 3) := by decide +kernel
theorem dX6_part_94 : decode cX6_part 94 = .ok (.getfield 102, 3) := by decide +kernel
theorem dX6_part_97 : decode cX6_part 97 = .ok (.iload_n 1, 1) := by decide +kernel
theorem dX6_part_98 : decode cX6_part 98 = .ok (.iaload, 1) := by decide +kernel
theorem dX6_part_99 : decode cX6_part 99 = .ok (.ireturn, 1) := by decide +kernel
theorem dX6_part_100 : decode cX6_part 100 = .ok (.new 75, 3) := by decide +kernel
theorem dX6_part_103 : decode cX6_part 103 = .ok (.dup, 1) := by decide +kernel
theorem dX6_part_104 : decode cX6_part 104 = .ok (.ldc 245, 2) := by decide +kernel
theorem dX6_part_106 : decode cX6_part 106 = .ok (.invokespecial 79, 3) := by decide +kernel
theorem dX6_part_109 : decode cX6_part 109 = .ok (.athrow, 1) := by decide +kernel
theorem dX6_count_0 : decode cX6_count 0 = .ok (.iload_n 1, 1) := by decide +kernel
theorem dX6_count_1 : decode cX6_count 1 = .ok (.tableswitch 155 0 9 #[55, 69, 77, 88, 99, 118, 123, 128, 142, 150], 55) := by decide +kernel
theorem dX6_count_56 : decode cX6_count 56 = .ok (.aload_n 0, 1) := by decide +kernel
theorem dX6_count_57 : decode cX6_count 57 = .ok (.getfield 10, 3) := by decide +kernel
theorem dX6_count_60 : decode cX6_count 60 = .ok (.getfield 43, 3) := by decide +kernel
theorem dX6_count_63 : decode cX6_count 63 = .ok (.getfield 47, 3) := by decide +kernel
theorem dX6_count_66 : decode cX6_count 66 = .ok (.getfield 51, 3) := by decide +kernel
theorem dX6_count_69 : decode cX6_count 69 = .ok (.ireturn, 1) := by decide +kernel
theorem dX6_count_70 : decode cX6_count 70 = .ok (.aload_n 0, 1) := by decide +kernel
theorem dX6_count_71 : decode cX6_count 71 = .ok (.getfield 10, 3) := by decide +kernel
theorem dX6_count_74 : decode cX6_count 74 = .ok (.getfield 213, 3) := by decide +kernel
theorem dX6_count_77 : decode cX6_count 77 = .ok (.ireturn, 1) := by decide +kernel
theorem dX6_count_78 : decode cX6_count 78 = .ok (.aload_n 0, 1) := by decide +kernel
theorem dX6_count_79 : decode cX6_count 79 = .ok (.getfield 10, 3) := by decide +kernel
theorem dX6_count_82 : decode cX6_count 82 = .ok (.getfield 43, 3) := by decide +kernel
theorem dX6_count_85 : decode cX6_count 85 = .ok (.getfield 108, 3) := by decide +kernel
theorem dX6_count_88 : decode cX6_count 88 = .ok (.ireturn, 1) := by decide +kernel
theorem dX6_count_89 : decode cX6_count 89 = .ok (.aload_n 0, 1) := by decide +kernel
theorem dX6_count_90 : decode cX6_count 90 = .ok (.getfield 10, 3) := by decide +kernel
theorem dX6_count_93 : decode cX6_count 93 = .ok (.getfield 43, 3) := by decide +kernel
theorem dX6_count_96 : decode cX6_count 96 = .ok (.getfield 133, 3) := by decide +kernel
theorem dX6_count_99 : decode cX6_count 99 = .ok (.ireturn, 1) := by decide +kernel
theorem dX6_count_100 : decode cX6_count 100 = .ok (.aload_n 0, 1) := by decide +kernel
theorem dX6_count_101 : decode cX6_count 101 = .ok (.getfield 10, 3) := by decide +kernel
theorem dX6_count_104 : decode cX6_count 104 = .ok (.getfield 43, 3) := by decide +kernel
theorem dX6_count_107 : decode cX6_count 107 = .ok (.getfield 179, 3) := by decide +kernel
theorem dX6_count_110 : decode cX6_count 110 = .ok (.ifCond .eq 7, 3) := by decide +kernel
theorem dX6_count_113 : decode cX6_count 113 = .ok (.iconst 1, 1) := by decide +kernel
theorem dX6_count_114 : decode cX6_count 114 = .ok (.goto 4, 3) := by decide +kernel
theorem dX6_count_117 : decode cX6_count 117 = .ok (.iconst 0, 1) := by decide +kernel
theorem dX6_count_118 : decode cX6_count 118 = .ok (.ireturn, 1) := by decide +kernel
theorem dX6_count_119 : decode cX6_count 119 = .ok (.aload_n 0, 1) := by decide +kernel
theorem dX6_count_120 : decode cX6_count 120 = .ok (.invokevirtual 247, 3) := by decide +kernel
theorem dX6_count_123 : decode cX6_count 123 = .ok (.ireturn, 1) := by decide +kernel
theorem dX6_count_124 : decode cX6_count 124 = .ok (.aload_n 0, 1) := by decide +kernel
theorem dX6_count_125 : decode cX6_count 125 = .ok (.invokevirtual 250, 3) := by decide +kernel
theorem dX6_count_128 : decode cX6_count 128 = .ok (.ireturn, 1) := by decide +kernel
theorem dX6_count_129 : decode cX6_count 129 = .ok (.aload_n 0, 1) := by decide +kernel
theorem dX6_count_130 : decode cX6_count 130 = .ok (.getfield 10, 3) := by decide +kernel
theorem dX6_count_133 : decode cX6_count 133 = .ok (.getfield 43, 3) := by decide +kernel
theorem dX6_count_136 : decode cX6_count 136 = .ok (.getfield 47, 3) := by decide +kernel
theorem dX6_count_139 : decode cX6_count 139 = .ok (.invokevirtual 253, 3) := by decide +kernel
theorem dX6_count_142 : decode cX6_count 142 = .ok (.ireturn, 1) := by decide +kernel
theorem dX6_count_143 : decode cX6_count 143 = .ok (.aload_n 0, 1) := by decide +kernel
theorem dX6_count_144 : decode cX6_count 144 = .ok (.getfield 29, 3) := by decide +kernel
theorem dX6_count_147 : decode cX6_count 147 = .ok (.getfield 136, 3) := by decide +kernel
theorem dX6_count_150 : decode cX6_count 150 = .ok (.ireturn, 1) := by decide +kernel
theorem dX6_count_151 : decode cX6_count 151 = .ok (.aload_n 0, 1) := by decide +kernel
theorem dX6_count_152 : decode cX6_count 152 = .ok (.getfield 152, 3) := by decide +kernel
theorem dX6_count_155 : decode cX6_count 155 = .ok (.ireturn, 1) := by decide +kernel
theorem dX6_count_156 : decode cX6_count 156 = .ok (.new 75, 3) := by decide +kernel
theorem dX6_count_159 : decode cX6_count 159 = .ok (.dup, 1) := by decide +kernel
theorem dX6_count_160 : decode cX6_count 160 = .ok (.ldc_w 256, 3) := by decide +kernel
theorem dX6_count_163 : decode cX6_count 163 = .ok (.invokespecial 79, 3) := by decide +kernel
theorem dX6_count_166 : decode cX6_count 166 = .ok (.athrow, 1) := by decide +kernel
theorem dX6_meanVoltage_0 : decode cX6_meanVoltage 0 = .ok (.aload_n 0, 1) := by decide +kernel
theorem dX6_meanVoltage_1 : decode cX6_meanVoltage 1 = .ok (.getfield 10, 3) := by decide +kernel
theorem dX6_meanVoltage_4 : decode cX6_meanVoltage 4 = .ok (.getfield 43, 3) := by decide +kernel
theorem dX6_meanVoltage_7 : decode cX6_meanVoltage 7 = .ok (.getfield 179, 3) := by decide +kernel
theorem dX6_meanVoltage_10 : decode cX6_meanVoltage 10 = .ok (.ifCond .ne 5, 3) := by decide +kernel
theorem dX6_meanVoltage_13 : decode cX6_meanVoltage 13 = .ok (.dconst 0, 1) := by decide +kernel
theorem dX6_meanVoltage_14 : decode cX6_meanVoltage 14 = .ok (.dreturn, 1) := by decide +kernel
theorem dX6_meanVoltage_15 : decode cX6_meanVoltage 15 = .ok (.aload_n 0, 1) := by decide +kernel
theorem dX6_meanVoltage_16 : decode cX6_meanVoltage 16 = .ok (.getfield 10, 3) := by decide +kernel
theorem dX6_meanVoltage_19 : decode cX6_meanVoltage 19 = .ok (.getfield 43, 3) := by decide +kernel
theorem dX6_meanVoltage_22 : decode cX6_meanVoltage 22 = .ok (.getfield 47, 3) := by decide +kernel
theorem dX6_meanVoltage_25 : decode cX6_meanVoltage 25 = .ok (.invokevirtual 253, 3) := by decide +kernel
theorem dX6_meanVoltage_28 : decode cX6_meanVoltage 28 = .ok (.istore_n 1, 1) := by decide +kernel
theorem dX6_meanVoltage_29 : decode cX6_meanVoltage 29 = .ok (.iload_n 1, 1) := by decide +kernel
theorem dX6_meanVoltage_30 : decode cX6_meanVoltage 30 = .ok (.invokestatic 258, 3) := by decide +kernel
theorem dX6_meanVoltage_33 : decode cX6_meanVoltage 33 = .ok (.istore_n 2, 1) := by decide +kernel
theorem dX6_meanVoltage_34 : decode cX6_meanVoltage 34 = .ok (.iload_n 2, 1) := by decide +kernel
theorem dX6_meanVoltage_35 : decode cX6_meanVoltage 35 = .ok (.ifCond .ne 5, 3) := by decide +kernel
theorem dX6_meanVoltage_38 : decode cX6_meanVoltage 38 = .ok (.dconst 0, 1) := by decide +kernel
theorem dX6_meanVoltage_39 : decode cX6_meanVoltage 39 = .ok (.dreturn, 1) := by decide +kernel
theorem dX6_meanVoltage_40 : decode cX6_meanVoltage 40 = .ok (.dconst 0, 1) := by decide +kernel
theorem dX6_meanVoltage_41 : decode cX6_meanVoltage 41 = .ok (.dstore_n 3, 1) := by decide +kernel
theorem dX6_meanVoltage_42 : decode cX6_meanVoltage 42 = .ok (.iconst 1, 1) := by decide +kernel
theorem dX6_meanVoltage_43 : decode cX6_meanVoltage 43 = .ok (.istore 5, 2) := by decide +kernel
theorem dX6_meanVoltage_45 : decode cX6_meanVoltage 45 = .ok (.iload 5, 2) := by decide +kernel
theorem dX6_meanVoltage_47 : decode cX6_meanVoltage 47 = .ok (.bipush 7, 2) := by decide +kernel
theorem dX6_meanVoltage_49 : decode cX6_meanVoltage 49 = .ok (.if_icmp .ge 38, 3) := by decide +kernel
theorem dX6_meanVoltage_52 : decode cX6_meanVoltage 52 = .ok (.iload_n 1, 1) := by decide +kernel
theorem dX6_meanVoltage_53 : decode cX6_meanVoltage 53 = .ok (.iload 5, 2) := by decide +kernel
theorem dX6_meanVoltage_55 : decode cX6_meanVoltage 55 = .ok (.invokestatic 155, 3) := by decide +kernel
theorem dX6_meanVoltage_58 : decode cX6_meanVoltage 58 = .ok (.ifCond .eq 23, 3) := by decide +kernel
theorem dX6_meanVoltage_61 : decode cX6_meanVoltage 61 = .ok (.dload_n 3, 1) := by decide +kernel
theorem dX6_meanVoltage_62 : decode cX6_meanVoltage 62 = .ok (.aload_n 0, 1) := by decide +kernel
theorem dX6_meanVoltage_63 : decode cX6_meanVoltage 63 = .ok (.iload 5, 2) := by decide +kernel
theorem dX6_meanVoltage_65 : decode cX6_meanVoltage 65 = .ok (.iconst 0, 1) := by decide +kernel
theorem dX6_meanVoltage_66 : decode cX6_meanVoltage 66 = .ok (.invokevirtual 263, 3) := by decide +kernel
theorem dX6_meanVoltage_69 : decode cX6_meanVoltage 69 = .ok (.l2d, 1) := by decide +kernel
theorem dX6_meanVoltage_70 : decode cX6_meanVoltage 70 = .ok (.aload_n 0, 1) := by decide +kernel
theorem dX6_meanVoltage_71 : decode cX6_meanVoltage 71 = .ok (.iload 5, 2) := by decide +kernel
theorem dX6_meanVoltage_73 : decode cX6_meanVoltage 73 = .ok (.iconst 1, 1) := by decide +kernel
theorem dX6_meanVoltage_74 : decode cX6_meanVoltage 74 = .ok (.invokevirtual 263, 3) := by decide +kernel
theorem dX6_meanVoltage_77 : decode cX6_meanVoltage 77 = .ok (.l2d, 1) := by decide +kernel
theorem dX6_meanVoltage_78 : decode cX6_meanVoltage 78 = .ok (.ddiv, 1) := by decide +kernel
theorem dX6_meanVoltage_79 : decode cX6_meanVoltage 79 = .ok (.dadd, 1) := by decide +kernel
theorem dX6_meanVoltage_80 : decode cX6_meanVoltage 80 = .ok (.dstore_n 3, 1) := by decide +kernel
theorem dX6_meanVoltage_81 : decode cX6_meanVoltage 81 = .ok (.iinc 5 1, 3) := by decide +kernel
theorem dX6_meanVoltage_84 : decode cX6_meanVoltage 84 = .ok (.goto (-39), 3) := by decide +kernel
theorem dX6_meanVoltage_87 : decode cX6_meanVoltage 87 = .ok (.dload_n 3, 1) := by decide +kernel
theorem dX6_meanVoltage_88 : decode cX6_meanVoltage 88 = .ok (.iload_n 2, 1) := by decide +kernel
theorem dX6_meanVoltage_89 : decode cX6_meanVoltage 89 = .ok (.i2d, 1) := by decide +kernel
theorem dX6_meanVoltage_90 : decode cX6_meanVoltage 90 = .ok (.ddiv, 1) := by decide +kernel
theorem dX6_meanVoltage_91 : decode cX6_meanVoltage 91 = .ok (.dreturn, 1) := by decide +kernel
theorem dX6_digest_0 : decode cX6_digest 0 = .ok (.ldc2_w 267, 3) := by decide +kernel
theorem dX6_digest_3 : decode cX6_digest 3 = .ok (.lstore_n 1, 1) := by decide +kernel
theorem dX6_digest_4 : decode cX6_digest 4 = .ok (.iconst 0, 1) := by decide +kernel
theorem dX6_digest_5 : decode cX6_digest 5 = .ok (.istore_n 3, 1) := by decide +kernel
theorem dX6_digest_6 : decode cX6_digest 6 = .ok (.iload_n 3, 1) := by decide +kernel
theorem dX6_digest_7 : decode cX6_digest 7 = .ok (.bipush 9, 2) := by decide +kernel
theorem dX6_digest_9 : decode cX6_digest 9 = .ok (.if_icmp .gt 20, 3) := by decide +kernel
theorem dX6_digest_12 : decode cX6_digest 12 = .ok (.lload_n 1, 1) := by decide +kernel
theorem dX6_digest_13 : decode cX6_digest 13 = .ok (.aload_n 0, 1) := by decide +kernel
theorem dX6_digest_14 : decode cX6_digest 14 = .ok (.iload_n 3, 1) := by decide +kernel
theorem dX6_digest_15 : decode cX6_digest 15 = .ok (.invokevirtual 269, 3) := by decide +kernel
theorem dX6_digest_18 : decode cX6_digest 18 = .ok (.i2l, 1) := by decide +kernel
theorem dX6_digest_19 : decode cX6_digest 19 = .ok (.invokestatic 272, 3) := by decide +kernel
theorem dX6_digest_22 : decode cX6_digest 22 = .ok (.lstore_n 1, 1) := by decide +kernel
theorem dX6_digest_23 : decode cX6_digest 23 = .ok (.iinc 3 1, 3) := by decide +kernel
theorem dX6_digest_26 : decode cX6_digest 26 = .ok (.goto (-20), 3) := by decide +kernel
theorem dX6_digest_29 : decode cX6_digest 29 = .ok (.aload_n 0, 1) := by decide +kernel
theorem dX6_digest_30 : decode cX6_digest 30 = .ok (.lload_n 1, 1) := by decide +kernel
theorem dX6_digest_31 : decode cX6_digest 31 = .ok (.invokevirtual 276, 3) := by decide +kernel
theorem dX6_digest_34 : decode cX6_digest 34 = .ok (.lstore_n 1, 1) := by decide +kernel
theorem dX6_digest_35 : decode cX6_digest 35 = .ok (.aload_n 0, 1) := by decide +kernel
theorem dX6_digest_36 : decode cX6_digest 36 = .ok (.lload_n 1, 1) := by decide +kernel
theorem dX6_digest_37 : decode cX6_digest 37 = .ok (.invokevirtual 280, 3) := by decide +kernel
theorem dX6_digest_40 : decode cX6_digest 40 = .ok (.lstore_n 1, 1) := by decide +kernel
theorem dX6_digest_41 : decode cX6_digest 41 = .ok (.aload_n 0, 1) := by decide +kernel
theorem dX6_digest_42 : decode cX6_digest 42 = .ok (.lload_n 1, 1) := by decide +kernel
theorem dX6_digest_43 : decode cX6_digest 43 = .ok (.invokevirtual 283, 3) := by decide +kernel
theorem dX6_digest_46 : decode cX6_digest 46 = .ok (.lstore_n 1, 1) := by decide +kernel
theorem dX6_digest_47 : decode cX6_digest 47 = .ok (.iconst 0, 1) := by decide +kernel
theorem dX6_digest_48 : decode cX6_digest 48 = .ok (.istore_n 3, 1) := by decide +kernel
theorem dX6_digest_49 : decode cX6_digest 49 = .ok (.iload_n 3, 1) := by decide +kernel
theorem dX6_digest_50 : decode cX6_digest 50 = .ok (.aload_n 0, 1) := by decide +kernel
theorem dX6_digest_51 : decode cX6_digest 51 = .ok (.getfield 10, 3) := by decide +kernel
theorem dX6_digest_54 : decode cX6_digest 54 = .ok (.invokevirtual 286, 3) := by decide +kernel
theorem dX6_digest_57 : decode cX6_digest 57 = .ok (.if_icmp .ge 31, 3) := by decide +kernel
theorem dX6_digest_60 : decode cX6_digest 60 = .ok (.lload_n 1, 1) := by decide +kernel
theorem dX6_digest_61 : decode cX6_digest 61 = .ok (.aload_n 0, 1) := by decide +kernel
theorem dX6_digest_62 : decode cX6_digest 62 = .ok (.iload_n 3, 1) := by decide +kernel
theorem dX6_digest_63 : decode cX6_digest 63 = .ok (.invokevirtual 289, 3) := by decide +kernel
theorem dX6_digest_66 : decode cX6_digest 66 = .ok (.i2l, 1) := by decide +kernel
theorem dX6_digest_67 : decode cX6_digest 67 = .ok (.invokestatic 272, 3) := by decide +kernel
theorem dX6_digest_70 : decode cX6_digest 70 = .ok (.lstore_n 1, 1) := by decide +kernel
theorem dX6_digest_71 : decode cX6_digest 71 = .ok (.lload_n 1, 1) := by decide +kernel
theorem dX6_digest_72 : decode cX6_digest 72 = .ok (.aload_n 0, 1) := by decide +kernel
theorem dX6_digest_73 : decode cX6_digest 73 = .ok (.iload_n 3, 1) := by decide +kernel
theorem dX6_digest_74 : decode cX6_digest 74 = .ok (.invokevirtual 292, 3) := by decide +kernel
theorem dX6_digest_77 : decode cX6_digest 77 = .ok (.i2l, 1) := by decide +kernel
theorem dX6_digest_78 : decode cX6_digest 78 = .ok (.invokestatic 272, 3) := by decide +kernel
theorem dX6_digest_81 : decode cX6_digest 81 = .ok (.lstore_n 1, 1) := by decide +kernel
theorem dX6_digest_82 : decode cX6_digest 82 = .ok (.iinc 3 1, 3) := by decide +kernel
theorem dX6_digest_85 : decode cX6_digest 85 = .ok (.goto (-36), 3) := by decide +kernel
theorem dX6_digest_88 : decode cX6_digest 88 = .ok (.lload_n 1, 1) := by decide +kernel
theorem dX6_digest_89 : decode cX6_digest 89 = .ok (.aload_n 0, 1) := by decide +kernel
theorem dX6_digest_90 : decode cX6_digest 90 = .ok (.invokevirtual 295, 3) := by decide +kernel
theorem dX6_digest_93 : decode cX6_digest 93 = .ok (.invokestatic 299, 3) := by decide +kernel
theorem dX6_digest_96 : decode cX6_digest 96 = .ok (.invokestatic 272, 3) := by decide +kernel
theorem dX6_digest_99 : decode cX6_digest 99 = .ok (.lstore_n 1, 1) := by decide +kernel
theorem dX6_digest_100 : decode cX6_digest 100 = .ok (.lload_n 1, 1) := by decide +kernel
theorem dX6_digest_101 : decode cX6_digest 101 = .ok (.aload_n 0, 1) := by decide +kernel
theorem dX6_digest_102 : decode cX6_digest 102 = .ok (.getfield 22, 3) := by decide +kernel
theorem dX6_digest_105 : decode cX6_digest 105 = .ok (.getfield 95, 3) := by decide +kernel
theorem dX6_digest_108 : decode cX6_digest 108 = .ok (.i2l, 1) := by decide +kernel
theorem dX6_digest_109 : decode cX6_digest 109 = .ok (.invokestatic 272, 3) := by decide +kernel
theorem dX6_digest_112 : decode cX6_digest 112 = .ok (.lstore_n 1, 1) := by decide +kernel
theorem dX6_digest_113 : decode cX6_digest 113 = .ok (.iconst 0, 1) := by decide +kernel
theorem dX6_digest_114 : decode cX6_digest 114 = .ok (.istore_n 3, 1) := by decide +kernel
theorem dX6_digest_115 : decode cX6_digest 115 = .ok (.iload_n 3, 1) := by decide +kernel
theorem dX6_digest_116 : decode cX6_digest 116 = .ok (.aload_n 0, 1) := by decide +kernel
theorem dX6_digest_117 : decode cX6_digest 117 = .ok (.getfield 22, 3) := by decide +kernel
theorem dX6_digest_120 : decode cX6_digest 120 = .ok (.getfield 95, 3) := by decide +kernel
theorem dX6_digest_123 : decode cX6_digest 123 = .ok (.if_icmp .ge 24, 3) := by decide +kernel
theorem dX6_digest_126 : decode cX6_digest 126 = .ok (.lload_n 1, 1) := by decide +kernel
theorem dX6_digest_127 : decode cX6_digest 127 = .ok (.aload_n 0, 1) := by decide +kernel
theorem dX6_digest_128 : decode cX6_digest 128 = .ok (.getfield 22, 3) := by decide +kernel
theorem dX6_digest_131 : decode cX6_digest 131 = .ok (.getfield 165, 3) := by decide +kernel
theorem dX6_digest_134 : decode cX6_digest 134 = .ok (.iload_n 3, 1) := by decide +kernel
theorem dX6_digest_135 : decode cX6_digest 135 = .ok (.caload, 1) := by decide +kernel
theorem dX6_digest_136 : decode cX6_digest 136 = .ok (.i2l, 1) := by decide +kernel
theorem dX6_digest_137 : decode cX6_digest 137 = .ok (.invokestatic 272, 3) := by decide +kernel
theorem dX6_digest_140 : decode cX6_digest 140 = .ok (.lstore_n 1, 1) := by decide +kernel
theorem dX6_digest_141 : decode cX6_digest 141 = .ok (.iinc 3 1, 3) := by decide +kernel
theorem dX6_digest_144 : decode cX6_digest 144 = .ok (.goto (-29), 3) := by decide +kernel
theorem dX6_digest_147 : decode cX6_digest 147 = .ok (.lload_n 1, 1) := by decide +kernel
theorem dX6_digest_148 : decode cX6_digest 148 = .ok (.lreturn, 1) := by decide +kernel
theorem dX6_mixedParts_0 : decode cX6_mixedParts 0 = .ok (.lload_n 1, 1) := by decide +kernel
theorem dX6_mixedParts_1 : decode cX6_mixedParts 1 = .ok (.lstore_n 3, 1) := by decide +kernel
theorem dX6_mixedParts_2 : decode cX6_mixedParts 2 = .ok (.iconst 0, 1) := by decide +kernel
theorem dX6_mixedParts_3 : decode cX6_mixedParts 3 = .ok (.istore 5, 2) := by decide +kernel
theorem dX6_mixedParts_5 : decode cX6_mixedParts 5 = .ok (.iload 5, 2) := by decide +kernel
theorem dX6_mixedParts_7 : decode cX6_mixedParts 7 = .ok (.aload_n 0, 1) := by decide +kernel
theorem dX6_mixedParts_8 : decode cX6_mixedParts 8 = .ok (.getfield 10, 3) := by decide +kernel
theorem dX6_mixedParts_11 : decode cX6_mixedParts 11 = .ok (.getfield 43, 3) := by decide +kernel
theorem dX6_mixedParts_14 : decode cX6_mixedParts 14 = .ok (.getfield 47, 3) := by decide +kernel
theorem dX6_mixedParts_17 : decode cX6_mixedParts 17 = .ok (.getfield 51, 3) := by decide +kernel
theorem dX6_mixedParts_20 : decode cX6_mixedParts 20 = .ok (.if_icmp .ge 38, 3) := by decide +kernel
theorem dX6_mixedParts_23 : decode cX6_mixedParts 23 = .ok (.iconst 0, 1) := by decide +kernel
theorem dX6_mixedParts_24 : decode cX6_mixedParts 24 = .ok (.istore 6, 2) := by decide +kernel
theorem dX6_mixedParts_26 : decode cX6_mixedParts 26 = .ok (.iload 6, 2) := by decide +kernel
theorem dX6_mixedParts_28 : decode cX6_mixedParts 28 = .ok (.iconst 3, 1) := by decide +kernel
theorem dX6_mixedParts_29 : decode cX6_mixedParts 29 = .ok (.if_icmp .gt 23, 3) := by decide +kernel
theorem dX6_mixedParts_32 : decode cX6_mixedParts 32 = .ok (.lload_n 3, 1) := by decide +kernel
theorem dX6_mixedParts_33 : decode cX6_mixedParts 33 = .ok (.aload_n 0, 1) := by decide +kernel
theorem dX6_mixedParts_34 : decode cX6_mixedParts 34 = .ok (.iload 5, 2) := by decide +kernel
theorem dX6_mixedParts_36 : decode cX6_mixedParts 36 = .ok (.iload 6, 2) := by decide +kernel
theorem dX6_mixedParts_38 : decode cX6_mixedParts 38 = .ok (.invokevirtual 303, 3) := by decide +kernel
theorem dX6_mixedParts_41 : decode cX6_mixedParts 41 = .ok (.i2l, 1) := by decide +kernel
theorem dX6_mixedParts_42 : decode cX6_mixedParts 42 = .ok (.invokestatic 272, 3) := by decide +kernel
theorem dX6_mixedParts_45 : decode cX6_mixedParts 45 = .ok (.lstore_n 3, 1) := by decide +kernel
theorem dX6_mixedParts_46 : decode cX6_mixedParts 46 = .ok (.iinc 6 1, 3) := by decide +kernel
theorem dX6_mixedParts_49 : decode cX6_mixedParts 49 = .ok (.goto (-23), 3) := by decide +kernel
theorem dX6_mixedParts_52 : decode cX6_mixedParts 52 = .ok (.iinc 5 1, 3) := by decide +kernel
theorem dX6_mixedParts_55 : decode cX6_mixedParts 55 = .ok (.goto (-50), 3) := by decide +kernel
theorem dX6_mixedParts_58 : decode cX6_mixedParts 58 = .ok (.lload_n 3, 1) := by decide +kernel
theorem dX6_mixedParts_59 : decode cX6_mixedParts 59 = .ok (.lreturn, 1) := by decide +kernel
theorem dX6_mixedVoltages_0 : decode cX6_mixedVoltages 0 = .ok (.lload_n 1, 1) := by decide +kernel
theorem dX6_mixedVoltages_1 : decode cX6_mixedVoltages 1 = .ok (.lstore_n 3, 1) := by decide +kernel
theorem dX6_mixedVoltages_2 : decode cX6_mixedVoltages 2 = .ok (.iconst 0, 1) := by decide +kernel
theorem dX6_mixedVoltages_3 : decode cX6_mixedVoltages 3 = .ok (.istore 5, 2) := by decide +kernel
theorem dX6_mixedVoltages_5 : decode cX6_mixedVoltages 5 = .ok (.iload 5, 2) := by decide +kernel
theorem dX6_mixedVoltages_7 : decode cX6_mixedVoltages 7 = .ok (.bipush 7, 2) := by decide +kernel
theorem dX6_mixedVoltages_9 : decode cX6_mixedVoltages 9 = .ok (.if_icmp .ge 33, 3) := by decide +kernel
theorem dX6_mixedVoltages_12 : decode cX6_mixedVoltages 12 = .ok (.lload_n 3, 1) := by decide +kernel
theorem dX6_mixedVoltages_13 : decode cX6_mixedVoltages 13 = .ok (.aload_n 0, 1) := by decide +kernel
theorem dX6_mixedVoltages_14 : decode cX6_mixedVoltages 14 = .ok (.iload 5, 2) := by decide +kernel
theorem dX6_mixedVoltages_16 : decode cX6_mixedVoltages 16 = .ok (.iconst 0, 1) := by decide +kernel
theorem dX6_mixedVoltages_17 : decode cX6_mixedVoltages 17 = .ok (.invokevirtual 263, 3) := by decide +kernel
theorem dX6_mixedVoltages_20 : decode cX6_mixedVoltages 20 = .ok (.invokestatic 272, 3) := by decide +kernel
theorem dX6_mixedVoltages_23 : decode cX6_mixedVoltages 23 = .ok (.lstore_n 3, 1) := by decide +kernel
theorem dX6_mixedVoltages_24 : decode cX6_mixedVoltages 24 = .ok (.lload_n 3, 1) := by decide +kernel
theorem dX6_mixedVoltages_25 : decode cX6_mixedVoltages 25 = .ok (.aload_n 0, 1) := by decide +kernel
theorem dX6_mixedVoltages_26 : decode cX6_mixedVoltages 26 = .ok (.iload 5, 2) := by decide +kernel
theorem dX6_mixedVoltages_28 : decode cX6_mixedVoltages 28 = .ok (.iconst 1, 1) := by decide +kernel
theorem dX6_mixedVoltages_29 : decode cX6_mixedVoltages 29 = .ok (.invokevirtual 263, 3) := by decide +kernel
theorem dX6_mixedVoltages_32 : decode cX6_mixedVoltages 32 = .ok (.invokestatic 272, 3) := by decide +kernel
theorem dX6_mixedVoltages_35 : decode cX6_mixedVoltages 35 = .ok (.lstore_n 3, 1) := by decide +kernel
theorem dX6_mixedVoltages_36 : decode cX6_mixedVoltages 36 = .ok (.iinc 5 1, 3) := by decide +kernel
theorem dX6_mixedVoltages_39 : decode cX6_mixedVoltages 39 = .ok (.goto (-34), 3) := by decide +kernel
theorem dX6_mixedVoltages_42 : decode cX6_mixedVoltages 42 = .ok (.lload_n 3, 1) := by decide +kernel
theorem dX6_mixedVoltages_43 : decode cX6_mixedVoltages 43 = .ok (.lreturn, 1) := by decide +kernel
theorem dX6_mixedAmplifiers_0 : decode cX6_mixedAmplifiers 0 = .ok (.lload_n 1, 1) := by decide +kernel
theorem dX6_mixedAmplifiers_1 : decode cX6_mixedAmplifiers 1 = .ok (.lstore_n 3, 1) := by decide +kernel
theorem dX6_mixedAmplifiers_2 : decode cX6_mixedAmplifiers 2 = .ok (.iconst 0, 1) := by decide +kernel
theorem dX6_mixedAmplifiers_3 : decode cX6_mixedAmplifiers 3 = .ok (.istore 5, 2) := by decide +kernel
theorem dX6_mixedAmplifiers_5 : decode cX6_mixedAmplifiers 5 = .ok (.iload 5, 2) := by decide +kernel
theorem dX6_mixedAmplifiers_7 : decode cX6_mixedAmplifiers 7 = .ok (.aload_n 0, 1) := by decide +kernel
theorem dX6_mixedAmplifiers_8 : decode cX6_mixedAmplifiers 8 = .ok (.getfield 10, 3) := by decide +kernel
theorem dX6_mixedAmplifiers_11 : decode cX6_mixedAmplifiers 11 = .ok (.getfield 213, 3) := by decide +kernel
theorem dX6_mixedAmplifiers_14 : decode cX6_mixedAmplifiers 14 = .ok (.if_icmp .ge 38, 3) := by decide +kernel
theorem dX6_mixedAmplifiers_17 : decode cX6_mixedAmplifiers 17 = .ok (.iconst 0, 1) := by decide +kernel
theorem dX6_mixedAmplifiers_18 : decode cX6_mixedAmplifiers 18 = .ok (.istore 6, 2) := by decide +kernel
theorem dX6_mixedAmplifiers_20 : decode cX6_mixedAmplifiers 20 = .ok (.iload 6, 2) := by decide +kernel
theorem dX6_mixedAmplifiers_22 : decode cX6_mixedAmplifiers 22 = .ok (.iconst 2, 1) := by decide +kernel
theorem dX6_mixedAmplifiers_23 : decode cX6_mixedAmplifiers 23 = .ok (.if_icmp .gt 23, 3) := by decide +kernel
theorem dX6_mixedAmplifiers_26 : decode cX6_mixedAmplifiers 26 = .ok (.lload_n 3, 1) := by decide +kernel
theorem dX6_mixedAmplifiers_27 : decode cX6_mixedAmplifiers 27 = .ok (.aload_n 0, 1) := by decide +kernel
theorem dX6_mixedAmplifiers_28 : decode cX6_mixedAmplifiers 28 = .ok (.iload 5, 2) := by decide +kernel
theorem dX6_mixedAmplifiers_30 : decode cX6_mixedAmplifiers 30 = .ok (.iload 6, 2) := by decide +kernel
theorem dX6_mixedAmplifiers_32 : decode cX6_mixedAmplifiers 32 = .ok (.invokevirtual 306, 3) := by decide +kernel
theorem dX6_mixedAmplifiers_35 : decode cX6_mixedAmplifiers 35 = .ok (.i2l, 1) := by decide +kernel
theorem dX6_mixedAmplifiers_36 : decode cX6_mixedAmplifiers 36 = .ok (.invokestatic 272, 3) := by decide +kernel
theorem dX6_mixedAmplifiers_39 : decode cX6_mixedAmplifiers 39 = .ok (.lstore_n 3, 1) := by decide +kernel
theorem dX6_mixedAmplifiers_40 : decode cX6_mixedAmplifiers 40 = .ok (.iinc 6 1, 3) := by decide +kernel
theorem dX6_mixedAmplifiers_43 : decode cX6_mixedAmplifiers 43 = .ok (.goto (-23), 3) := by decide +kernel
theorem dX6_mixedAmplifiers_46 : decode cX6_mixedAmplifiers 46 = .ok (.iinc 5 1, 3) := by decide +kernel
theorem dX6_mixedAmplifiers_49 : decode cX6_mixedAmplifiers 49 = .ok (.goto (-44), 3) := by decide +kernel
theorem dX6_mixedAmplifiers_52 : decode cX6_mixedAmplifiers 52 = .ok (.lload_n 3, 1) := by decide +kernel
theorem dX6_mixedAmplifiers_53 : decode cX6_mixedAmplifiers 53 = .ok (.lreturn, 1) := by decide +kernel
theorem dX6_holdingCases_0 : decode cX6_holdingCases 0 = .ok (.iconst 0, 1) := by decide +kernel
theorem dX6_holdingCases_1 : decode cX6_holdingCases 1 = .ok (.istore_n 1, 1) := by decide +kernel
theorem dX6_holdingCases_2 : decode cX6_holdingCases 2 = .ok (.iconst 0, 1) := by decide +kernel
theorem dX6_holdingCases_3 : decode cX6_holdingCases 3 = .ok (.istore_n 2, 1) := by decide +kernel
theorem dX6_holdingCases_4 : decode cX6_holdingCases 4 = .ok (.iload_n 2, 1) := by decide +kernel
theorem dX6_holdingCases_5 : decode cX6_holdingCases 5 = .ok (.aload_n 0, 1) := by decide +kernel
theorem dX6_holdingCases_6 : decode cX6_holdingCases 6 = .ok (.getfield 10, 3) := by decide +kernel
theorem dX6_holdingCases_9 : decode cX6_holdingCases 9 = .ok (.invokevirtual 286, 3) := by decide +kernel
theorem dX6_holdingCases_12 : decode cX6_holdingCases 12 = .ok (.if_icmp .ge 30, 3) := by decide +kernel
theorem dX6_holdingCases_15 : decode cX6_holdingCases 15 = .ok (.aload_n 0, 1) := by decide +kernel
theorem dX6_holdingCases_16 : decode cX6_holdingCases 16 = .ok (.getfield 10, 3) := by decide +kernel
theorem dX6_holdingCases_19 : decode cX6_holdingCases 19 = .ok (.iload_n 2, 1) := by decide +kernel
theorem dX6_holdingCases_20 : decode cX6_holdingCases 20 = .ok (.invokevirtual 236, 3) := by decide +kernel
theorem dX6_holdingCases_23 : decode cX6_holdingCases 23 = .ok (.aload_n 0, 1) := by decide +kernel
theorem dX6_holdingCases_24 : decode cX6_holdingCases 24 = .ok (.getfield 10, 3) := by decide +kernel
theorem dX6_holdingCases_27 : decode cX6_holdingCases 27 = .ok (.getfield 239, 3) := by decide +kernel
theorem dX6_holdingCases_30 : decode cX6_holdingCases 30 = .ok (.ifCond .ne 6, 3) := by decide +kernel
theorem dX6_holdingCases_33 : decode cX6_holdingCases 33 = .ok (.iinc 1 1, 3) := by decide +kernel
theorem dX6_holdingCases_36 : decode cX6_holdingCases 36 = .ok (.iinc 2 1, 3) := by decide +kernel
theorem dX6_holdingCases_39 : decode cX6_holdingCases 39 = .ok (.goto (-35), 3) := by decide +kernel
theorem dX6_holdingCases_42 : decode cX6_holdingCases 42 = .ok (.iload_n 1, 1) := by decide +kernel
theorem dX6_holdingCases_43 : decode cX6_holdingCases 43 = .ok (.ireturn, 1) := by decide +kernel
theorem dX6_determinedCases_0 : decode cX6_determinedCases 0 = .ok (.iconst 0, 1) := by decide +kernel
theorem dX6_determinedCases_1 : decode cX6_determinedCases 1 = .ok (.istore_n 1, 1) := by decide +kernel
theorem dX6_determinedCases_2 : decode cX6_determinedCases 2 = .ok (.iconst 0, 1) := by decide +kernel
theorem dX6_determinedCases_3 : decode cX6_determinedCases 3 = .ok (.istore_n 2, 1) := by decide +kernel
theorem dX6_determinedCases_4 : decode cX6_determinedCases 4 = .ok (.iload_n 2, 1) := by decide +kernel
theorem dX6_determinedCases_5 : decode cX6_determinedCases 5 = .ok (.aload_n 0, 1) := by decide +kernel
theorem dX6_determinedCases_6 : decode cX6_determinedCases 6 = .ok (.getfield 10, 3) := by decide +kernel
theorem dX6_determinedCases_9 : decode cX6_determinedCases 9 = .ok (.invokevirtual 286, 3) := by decide +kernel
theorem dX6_determinedCases_12 : decode cX6_determinedCases 12 = .ok (.if_icmp .ge 23, 3) := by decide +kernel
theorem dX6_determinedCases_15 : decode cX6_determinedCases 15 = .ok (.aload_n 0, 1) := by decide +kernel
theorem dX6_determinedCases_16 : decode cX6_determinedCases 16 = .ok (.getfield 10, 3) := by decide +kernel
theorem dX6_determinedCases_19 : decode cX6_determinedCases 19 = .ok (.iload_n 2, 1) := by decide +kernel
theorem dX6_determinedCases_20 : decode cX6_determinedCases 20 = .ok (.invokevirtual 309, 3) := by decide +kernel
theorem dX6_determinedCases_23 : decode cX6_determinedCases 23 = .ok (.ifCond .eq 6, 3) := by decide +kernel
theorem dX6_determinedCases_26 : decode cX6_determinedCases 26 = .ok (.iinc 1 1, 3) := by decide +kernel
theorem dX6_determinedCases_29 : decode cX6_determinedCases 29 = .ok (.iinc 2 1, 3) := by decide +kernel
theorem dX6_determinedCases_32 : decode cX6_determinedCases 32 = .ok (.goto (-28), 3) := by decide +kernel
theorem dX6_determinedCases_35 : decode cX6_determinedCases 35 = .ok (.iload_n 1, 1) := by decide +kernel
theorem dX6_determinedCases_36 : decode cX6_determinedCases 36 = .ok (.ireturn, 1) := by decide +kernel
theorem dX6_requirePart_0 : decode cX6_requirePart 0 = .ok (.iload_n 1, 1) := by decide +kernel
theorem dX6_requirePart_1 : decode cX6_requirePart 1 = .ok (.ifCond .lt 20, 3) := by decide +kernel
theorem dX6_requirePart_4 : decode cX6_requirePart 4 = .ok (.iload_n 1, 1) := by decide +kernel
theorem dX6_requirePart_5 : decode cX6_requirePart 5 = .ok (.aload_n 0, 1) := by decide +kernel
theorem dX6_requirePart_6 : decode cX6_requirePart 6 = .ok (.getfield 10, 3) := by decide +kernel
theorem dX6_requirePart_9 : decode cX6_requirePart 9 = .ok (.getfield 43, 3) := by decide +kernel
theorem dX6_requirePart_12 : decode cX6_requirePart 12 = .ok (.getfield 47, 3) := by decide +kernel
theorem dX6_requirePart_15 : decode cX6_requirePart 15 = .ok (.getfield 51, 3) := by decide +kernel
theorem dX6_requirePart_18 : decode cX6_requirePart 18 = .ok (.if_icmp .lt 14, 3) := by decide +kernel
theorem dX6_requirePart_21 : decode cX6_requirePart 21 = .ok (.new 216, 3) := by decide +kernel
theorem dX6_requirePart_24 : decode cX6_requirePart 24 = .ok (.dup, 1) := by decide +kernel
theorem dX6_requirePart_25 : decode cX6_requirePart 25 = .ok (.ldc_w 312, 3) := by decide +kernel
theorem dX6_requirePart_28 : decode cX6_requirePart 28 = .ok (.invokespecial 220, 3) := by decide +kernel
theorem dX6_requirePart_31 : decode cX6_requirePart 31 = .ok (.athrow, 1) := by decide +kernel
theorem dX6_requirePart_32 : decode cX6_requirePart 32 = .ok (.return_, 1) := by decide +kernel
theorem dX6_requireSource_0 : decode cX6_requireSource 0 = .ok (.aload_n 0, 1) := by decide +kernel
theorem dX6_requireSource_1 : decode cX6_requireSource 1 = .ok (.iload_n 1, 1) := by decide +kernel
theorem dX6_requireSource_2 : decode cX6_requireSource 2 = .ok (.invokevirtual 111, 3) := by decide +kernel
theorem dX6_requireSource_5 : decode cX6_requireSource 5 = .ok (.aload_n 0, 1) := by decide +kernel
theorem dX6_requireSource_6 : decode cX6_requireSource 6 = .ok (.getfield 10, 3) := by decide +kernel
theorem dX6_requireSource_9 : decode cX6_requireSource 9 = .ok (.getfield 43, 3) := by decide +kernel
theorem dX6_requireSource_12 : decode cX6_requireSource 12 = .ok (.getfield 47, 3) := by decide +kernel
theorem dX6_requireSource_15 : decode cX6_requireSource 15 = .ok (.getfield 187, 3) := by decide +kernel
theorem dX6_requireSource_18 : decode cX6_requireSource 18 = .ok (.iload_n 1, 1) := by decide +kernel
theorem dX6_requireSource_19 : decode cX6_requireSource 19 = .ok (.iaload, 1) := by decide +kernel
theorem dX6_requireSource_20 : decode cX6_requireSource 20 = .ok (.iconst 1, 1) := by decide +kernel
theorem dX6_requireSource_21 : decode cX6_requireSource 21 = .ok (.if_icmp .eq 14, 3) := by decide +kernel
theorem dX6_requireSource_24 : decode cX6_requireSource 24 = .ok (.new 86, 3) := by decide +kernel
theorem dX6_requireSource_27 : decode cX6_requireSource 27 = .ok (.dup, 1) := by decide +kernel
theorem dX6_requireSource_28 : decode cX6_requireSource 28 = .ok (.ldc_w 314, 3) := by decide +kernel
theorem dX6_requireSource_31 : decode cX6_requireSource 31 = .ok (.invokespecial 90, 3) := by decide +kernel
theorem dX6_requireSource_34 : decode cX6_requireSource 34 = .ok (.athrow, 1) := by decide +kernel
theorem dX6_requireSource_35 : decode cX6_requireSource 35 = .ok (.return_, 1) := by decide +kernel
theorem dX6_requireSettable_0 : decode cX6_requireSettable 0 = .ok (.aload_n 0, 1) := by decide +kernel
theorem dX6_requireSettable_1 : decode cX6_requireSettable 1 = .ok (.iload_n 1, 1) := by decide +kernel
theorem dX6_requireSettable_2 : decode cX6_requireSettable 2 = .ok (.invokevirtual 111, 3) := by decide +kernel
theorem dX6_requireSettable_5 : decode cX6_requireSettable 5 = .ok (.aload_n 0, 1) := by decide +kernel
theorem dX6_requireSettable_6 : decode cX6_requireSettable 6 = .ok (.getfield 10, 3) := by decide +kernel
theorem dX6_requireSettable_9 : decode cX6_requireSettable 9 = .ok (.getfield 43, 3) := by decide +kernel
theorem dX6_requireSettable_12 : decode cX6_requireSettable 12 = .ok (.getfield 47, 3) := by decide +kernel
theorem dX6_requireSettable_15 : decode cX6_requireSettable 15 = .ok (.getfield 187, 3) := by decide +kernel
theorem dX6_requireSettable_18 : decode cX6_requireSettable 18 = .ok (.iload_n 1, 1) := by decide +kernel
theorem dX6_requireSettable_19 : decode cX6_requireSettable 19 = .ok (.iaload, 1) := by decide +kernel
theorem dX6_requireSettable_20 : decode cX6_requireSettable 20 = .ok (.istore_n 3, 1) := by decide +kernel
theorem dX6_requireSettable_21 : decode cX6_requireSettable 21 = .ok (.iload_n 3, 1) := by decide +kernel
theorem dX6_requireSettable_22 : decode cX6_requireSettable 22 = .ok (.iconst 2, 1) := by decide +kernel
theorem dX6_requireSettable_23 : decode cX6_requireSettable 23 = .ok (.if_icmp .ne 14, 3) := by decide +kernel
theorem dX6_requireSettable_26 : decode cX6_requireSettable 26 = .ok (.new 86, 3) := by decide +kernel
theorem dX6_requireSettable_29 : decode cX6_requireSettable 29 = .ok (.dup, 1) := by decide +kernel
theorem dX6_requireSettable_30 : decode cX6_requireSettable 30 = .ok (.ldc_w 316, 3) := by decide +kernel
theorem dX6_requireSettable_33 : decode cX6_requireSettable 33 = .ok (.invokespecial 90, 3) := by decide +kernel
theorem dX6_requireSettable_36 : decode cX6_requireSettable 36 = .ok (.athrow, 1) := by decide +kernel
theorem dX6_requireSettable_37 : decode cX6_requireSettable 37 = .ok (.iload_n 3, 1) := by decide +kernel
theorem dX6_requireSettable_38 : decode cX6_requireSettable 38 = .ok (.ifCond .ne 21, 3) := by decide +kernel
theorem dX6_requireSettable_41 : decode cX6_requireSettable 41 = .ok (.iload_n 2, 1) := by decide +kernel
theorem dX6_requireSettable_42 : decode cX6_requireSettable 42 = .ok (.iconst 1, 1) := by decide +kernel
theorem dX6_requireSettable_43 : decode cX6_requireSettable 43 = .ok (.if_icmp .lt 12, 3) := by decide +kernel
theorem dX6_requireSettable_46 : decode cX6_requireSettable 46 = .ok (.iload_n 2, 1) := by decide +kernel
theorem dX6_requireSettable_47 : decode cX6_requireSettable 47 = .ok (.iconst 4, 1) := by decide +kernel
theorem dX6_requireSettable_48 : decode cX6_requireSettable 48 = .ok (.if_icmp .gt 7, 3) := by decide +kernel
theorem dX6_requireSettable_51 : decode cX6_requireSettable 51 = .ok (.iconst 1, 1) := by decide +kernel
theorem dX6_requireSettable_52 : decode cX6_requireSettable 52 = .ok (.goto 11, 3) := by decide +kernel
theorem dX6_requireSettable_55 : decode cX6_requireSettable 55 = .ok (.iconst 0, 1) := by decide +kernel
theorem dX6_requireSettable_56 : decode cX6_requireSettable 56 = .ok (.goto 7, 3) := by decide +kernel
theorem dX6_requireSettable_59 : decode cX6_requireSettable 59 = .ok (.iload_n 2, 1) := by decide +kernel
theorem dX6_requireSettable_60 : decode cX6_requireSettable 60 = .ok (.invokestatic 121, 3) := by decide +kernel
theorem dX6_requireSettable_63 : decode cX6_requireSettable 63 = .ok (.istore 4, 2) := by decide +kernel
theorem dX6_requireSettable_65 : decode cX6_requireSettable 65 = .ok (.iload 4, 2) := by decide +kernel
theorem dX6_requireSettable_67 : decode cX6_requireSettable 67 = .ok (.ifCond .ne 14, 3) := by decide +kernel
theorem dX6_requireSettable_70 : decode cX6_requireSettable 70 = .ok (.new 75, 3) := by decide +kernel
theorem dX6_requireSettable_73 : decode cX6_requireSettable 73 = .ok (.dup, 1) := by decide +kernel
theorem dX6_requireSettable_74 : decode cX6_requireSettable 74 = .ok (.ldc_w 318, 3) := by decide +kernel
theorem dX6_requireSettable_77 : decode cX6_requireSettable 77 = .ok (.invokespecial 79, 3) := by decide +kernel
theorem dX6_requireSettable_80 : decode cX6_requireSettable 80 = .ok (.athrow, 1) := by decide +kernel
theorem dX6_requireSettable_81 : decode cX6_requireSettable 81 = .ok (.return_, 1) := by decide +kernel
theorem dX6_requireImage_0 : decode cX6_requireImage 0 = .ok (.iload_n 1, 1) := by decide +kernel
theorem dX6_requireImage_1 : decode cX6_requireImage 1 = .ok (.ifCond .lt 8, 3) := by decide +kernel
theorem dX6_requireImage_4 : decode cX6_requireImage 4 = .ok (.iload_n 1, 1) := by decide +kernel
theorem dX6_requireImage_5 : decode cX6_requireImage 5 = .ok (.iconst 2, 1) := by decide +kernel
theorem dX6_requireImage_6 : decode cX6_requireImage 6 = .ok (.if_icmp .lt 14, 3) := by decide +kernel
theorem dX6_requireImage_9 : decode cX6_requireImage 9 = .ok (.new 216, 3) := by decide +kernel
theorem dX6_requireImage_12 : decode cX6_requireImage 12 = .ok (.dup, 1) := by decide +kernel
theorem dX6_requireImage_13 : decode cX6_requireImage 13 = .ok (.ldc_w 320, 3) := by decide +kernel
theorem dX6_requireImage_16 : decode cX6_requireImage 16 = .ok (.invokespecial 220, 3) := by decide +kernel
theorem dX6_requireImage_19 : decode cX6_requireImage 19 = .ok (.athrow, 1) := by decide +kernel
theorem dX6_requireImage_20 : decode cX6_requireImage 20 = .ok (.return_, 1) := by decide +kernel
theorem dX6_requireCase_0 : decode cX6_requireCase 0 = .ok (.iload_n 1, 1) := by decide +kernel
theorem dX6_requireCase_1 : decode cX6_requireCase 1 = .ok (.ifCond .lt 14, 3) := by decide +kernel
theorem dX6_requireCase_4 : decode cX6_requireCase 4 = .ok (.iload_n 1, 1) := by decide +kernel
theorem dX6_requireCase_5 : decode cX6_requireCase 5 = .ok (.aload_n 0, 1) := by decide +kernel
theorem dX6_requireCase_6 : decode cX6_requireCase 6 = .ok (.getfield 10, 3) := by decide +kernel
theorem dX6_requireCase_9 : decode cX6_requireCase 9 = .ok (.invokevirtual 286, 3) := by decide +kernel
theorem dX6_requireCase_12 : decode cX6_requireCase 12 = .ok (.if_icmp .lt 14, 3) := by decide +kernel
theorem dX6_requireCase_15 : decode cX6_requireCase 15 = .ok (.new 216, 3) := by decide +kernel
theorem dX6_requireCase_18 : decode cX6_requireCase 18 = .ok (.dup, 1) := by decide +kernel
theorem dX6_requireCase_19 : decode cX6_requireCase 19 = .ok (.ldc_w 322, 3) := by decide +kernel
theorem dX6_requireCase_22 : decode cX6_requireCase 22 = .ok (.invokespecial 220, 3) := by decide +kernel
theorem dX6_requireCase_25 : decode cX6_requireCase 25 = .ok (.athrow, 1) := by decide +kernel
theorem dX6_requireCase_26 : decode cX6_requireCase 26 = .ok (.return_, 1) := by decide +kernel
theorem dX6_requireNode_0 : decode cX6_requireNode 0 = .ok (.iload_n 0, 1) := by decide +kernel
theorem dX6_requireNode_1 : decode cX6_requireNode 1 = .ok (.ifCond .lt 9, 3) := by decide +kernel
theorem dX6_requireNode_4 : decode cX6_requireNode 4 = .ok (.iload_n 0, 1) := by decide +kernel
theorem dX6_requireNode_5 : decode cX6_requireNode 5 = .ok (.bipush 7, 2) := by decide +kernel
theorem dX6_requireNode_7 : decode cX6_requireNode 7 = .ok (.if_icmp .lt 14, 3) := by decide +kernel
theorem dX6_requireNode_10 : decode cX6_requireNode 10 = .ok (.new 216, 3) := by decide +kernel
theorem dX6_requireNode_13 : decode cX6_requireNode 13 = .ok (.dup, 1) := by decide +kernel
theorem dX6_requireNode_14 : decode cX6_requireNode 14 = .ok (.ldc_w 324, 3) := by decide +kernel
theorem dX6_requireNode_17 : decode cX6_requireNode 17 = .ok (.invokespecial 220, 3) := by decide +kernel
theorem dX6_requireNode_20 : decode cX6_requireNode 20 = .ok (.athrow, 1) := by decide +kernel
theorem dX6_requireNode_21 : decode cX6_requireNode 21 = .ok (.return_, 1) := by decide +kernel
theorem dX6_requireFractionSide_0 : decode cX6_requireFractionSide 0 = .ok (.iload_n 0, 1) := by decide +kernel
theorem dX6_requireFractionSide_1 : decode cX6_requireFractionSide 1 = .ok (.ifCond .eq 19, 3) := by decide +kernel
theorem dX6_requireFractionSide_4 : decode cX6_requireFractionSide 4 = .ok (.iload_n 0, 1) := by decide +kernel
theorem dX6_requireFractionSide_5 : decode cX6_requireFractionSide 5 = .ok (.iconst 1, 1) := by decide +kernel
theorem dX6_requireFractionSide_6 : decode cX6_requireFractionSide 6 = .ok (.if_icmp .eq 14, 3) := by decide +kernel
theorem dX6_requireFractionSide_9 : decode cX6_requireFractionSide 9 = .ok (.new 75, 3) := by decide +kernel
theorem dX6_requireFractionSide_12 : decode cX6_requireFractionSide 12 = .ok (.dup, 1) := by decide +kernel
theorem dX6_requireFractionSide_13 : decode cX6_requireFractionSide 13 = .ok (.ldc_w 326, 3) := by decide +kernel
theorem dX6_requireFractionSide_16 : decode cX6_requireFractionSide 16 = .ok (.invokespecial 79, 3) := by decide +kernel
theorem dX6_requireFractionSide_19 : decode cX6_requireFractionSide 19 = .ok (.athrow, 1) := by decide +kernel
theorem dX6_requireFractionSide_20 : decode cX6_requireFractionSide 20 = .ok (.return_, 1) := by decide +kernel
theorem dX6_isSourceValue_0 : decode cX6_isSourceValue 0 = .ok (.iload_n 0, 1) := by decide +kernel
theorem dX6_isSourceValue_1 : decode cX6_isSourceValue 1 = .ok (.sipush (-200), 3) := by decide +kernel
theorem dX6_isSourceValue_4 : decode cX6_isSourceValue 4 = .ok (.if_icmp .lt 14, 3) := by decide +kernel
theorem dX6_isSourceValue_7 : decode cX6_isSourceValue 7 = .ok (.iload_n 0, 1) := by decide +kernel
theorem dX6_isSourceValue_8 : decode cX6_isSourceValue 8 = .ok (.sipush 200, 3) := by decide +kernel
theorem dX6_isSourceValue_11 : decode cX6_isSourceValue 11 = .ok (.if_icmp .gt 7, 3) := by decide +kernel
theorem dX6_isSourceValue_14 : decode cX6_isSourceValue 14 = .ok (.iconst 1, 1) := by decide +kernel
theorem dX6_isSourceValue_15 : decode cX6_isSourceValue 15 = .ok (.goto 4, 3) := by decide +kernel
theorem dX6_isSourceValue_18 : decode cX6_isSourceValue 18 = .ok (.iconst 0, 1) := by decide +kernel
theorem dX6_isSourceValue_19 : decode cX6_isSourceValue 19 = .ok (.ireturn, 1) := by decide +kernel
theorem dX6_contains_0 : decode cX6_contains 0 = .ok (.iload_n 0, 1) := by decide +kernel
theorem dX6_contains_1 : decode cX6_contains 1 = .ok (.iload_n 1, 1) := by decide +kernel
theorem dX6_contains_2 : decode cX6_contains 2 = .ok (.ishr, 1) := by decide +kernel
theorem dX6_contains_3 : decode cX6_contains 3 = .ok (.iconst 1, 1) := by decide +kernel
theorem dX6_contains_4 : decode cX6_contains 4 = .ok (.iand, 1) := by decide +kernel
theorem dX6_contains_5 : decode cX6_contains 5 = .ok (.ifCond .eq 7, 3) := by decide +kernel
theorem dX6_contains_8 : decode cX6_contains 8 = .ok (.iconst 1, 1) := by decide +kernel
theorem dX6_contains_9 : decode cX6_contains 9 = .ok (.goto 4, 3) := by decide +kernel
theorem dX6_contains_12 : decode cX6_contains 12 = .ok (.iconst 0, 1) := by decide +kernel
theorem dX6_contains_13 : decode cX6_contains 13 = .ok (.ireturn, 1) := by decide +kernel
theorem dX6_stateIn_0 : decode cX6_stateIn 0 = .ok (.iload_n 0, 1) := by decide +kernel
theorem dX6_stateIn_1 : decode cX6_stateIn 1 = .ok (.getstatic 328, 3) := by decide +kernel
theorem dX6_stateIn_4 : decode cX6_stateIn 4 = .ok (.iload_n 1, 1) := by decide +kernel
theorem dX6_stateIn_5 : decode cX6_stateIn 5 = .ok (.iaload, 1) := by decide +kernel
theorem dX6_stateIn_6 : decode cX6_stateIn 6 = .ok (.idiv, 1) := by decide +kernel
theorem dX6_stateIn_7 : decode cX6_stateIn 7 = .ok (.iconst 3, 1) := by decide +kernel
theorem dX6_stateIn_8 : decode cX6_stateIn 8 = .ok (.irem, 1) := by decide +kernel
theorem dX6_stateIn_9 : decode cX6_stateIn 9 = .ok (.ireturn, 1) := by decide +kernel
theorem dX6_mixed_0 : decode cX6_mixed 0 = .ok (.ldc2_w 331, 3) := by decide +kernel
theorem dX6_mixed_3 : decode cX6_mixed 3 = .ok (.lload_n 0, 1) := by decide +kernel
theorem dX6_mixed_4 : decode cX6_mixed 4 = .ok (.lmul, 1) := by decide +kernel
theorem dX6_mixed_5 : decode cX6_mixed 5 = .ok (.lload_n 2, 1) := by decide +kernel
theorem dX6_mixed_6 : decode cX6_mixed 6 = .ok (.ladd, 1) := by decide +kernel
theorem dX6_mixed_7 : decode cX6_mixed 7 = .ok (.lreturn, 1) := by decide +kernel
theorem dX6_lowestTerms_0 : decode cX6_lowestTerms 0 = .ok (.lload_n 0, 1) := by decide +kernel
theorem dX6_lowestTerms_1 : decode cX6_lowestTerms 1 = .ok (.invokestatic 333, 3) := by decide +kernel
theorem dX6_lowestTerms_4 : decode cX6_lowestTerms 4 = .ok (.lload_n 2, 1) := by decide +kernel
theorem dX6_lowestTerms_5 : decode cX6_lowestTerms 5 = .ok (.invokestatic 335, 3) := by decide +kernel
theorem dX6_lowestTerms_8 : decode cX6_lowestTerms 8 = .ok (.lstore 5, 2) := by decide +kernel
theorem dX6_lowestTerms_10 : decode cX6_lowestTerms 10 = .ok (.lload 5, 2) := by decide +kernel
theorem dX6_lowestTerms_12 : decode cX6_lowestTerms 12 = .ok (.lconst 0, 1) := by decide +kernel
theorem dX6_lowestTerms_13 : decode cX6_lowestTerms 13 = .ok (.lcmp, 1) := by decide +kernel
theorem dX6_lowestTerms_14 : decode cX6_lowestTerms 14 = .ok (.ifCond .ne 5, 3) := by decide +kernel
theorem dX6_lowestTerms_17 : decode cX6_lowestTerms 17 = .ok (.lconst 0, 1) := by decide +kernel
theorem dX6_lowestTerms_18 : decode cX6_lowestTerms 18 = .ok (.lreturn, 1) := by decide +kernel
theorem dX6_lowestTerms_19 : decode cX6_lowestTerms 19 = .ok (.iload 4, 2) := by decide +kernel
theorem dX6_lowestTerms_21 : decode cX6_lowestTerms 21 = .ok (.ifCond .ne 10, 3) := by decide +kernel
theorem dX6_lowestTerms_24 : decode cX6_lowestTerms 24 = .ok (.lload_n 0, 1) := by decide +kernel
theorem dX6_lowestTerms_25 : decode cX6_lowestTerms 25 = .ok (.lload 5, 2) := by decide +kernel
theorem dX6_lowestTerms_27 : decode cX6_lowestTerms 27 = .ok (.ldiv, 1) := by decide +kernel
theorem dX6_lowestTerms_28 : decode cX6_lowestTerms 28 = .ok (.goto 7, 3) := by decide +kernel
theorem dX6_lowestTerms_31 : decode cX6_lowestTerms 31 = .ok (.lload_n 2, 1) := by decide +kernel
theorem dX6_lowestTerms_32 : decode cX6_lowestTerms 32 = .ok (.lload 5, 2) := by decide +kernel
theorem dX6_lowestTerms_34 : decode cX6_lowestTerms 34 = .ok (.ldiv, 1) := by decide +kernel
theorem dX6_lowestTerms_35 : decode cX6_lowestTerms 35 = .ok (.lreturn, 1) := by decide +kernel
theorem dX6_greatestDivisor_0 : decode cX6_greatestDivisor 0 = .ok (.lload_n 0, 1) := by decide +kernel
theorem dX6_greatestDivisor_1 : decode cX6_greatestDivisor 1 = .ok (.lstore 4, 2) := by decide +kernel
theorem dX6_greatestDivisor_3 : decode cX6_greatestDivisor 3 = .ok (.lload_n 2, 1) := by decide +kernel
theorem dX6_greatestDivisor_4 : decode cX6_greatestDivisor 4 = .ok (.lstore 6, 2) := by decide +kernel
theorem dX6_greatestDivisor_6 : decode cX6_greatestDivisor 6 = .ok (.iconst 0, 1) := by decide +kernel
theorem dX6_greatestDivisor_7 : decode cX6_greatestDivisor 7 = .ok (.istore 8, 2) := by decide +kernel
theorem dX6_greatestDivisor_9 : decode cX6_greatestDivisor 9 = .ok (.iload 8, 2) := by decide +kernel
theorem dX6_greatestDivisor_11 : decode cX6_greatestDivisor 11 = .ok (.bipush 100, 2) := by decide +kernel
theorem dX6_greatestDivisor_13 : decode cX6_greatestDivisor 13 = .ok (.if_icmp .ge 31, 3) := by decide +kernel
theorem dX6_greatestDivisor_16 : decode cX6_greatestDivisor 16 = .ok (.lload 6, 2) := by decide +kernel
theorem dX6_greatestDivisor_18 : decode cX6_greatestDivisor 18 = .ok (.lconst 0, 1) := by decide +kernel
theorem dX6_greatestDivisor_19 : decode cX6_greatestDivisor 19 = .ok (.lcmp, 1) := by decide +kernel
theorem dX6_greatestDivisor_20 : decode cX6_greatestDivisor 20 = .ok (.ifCond .eq 24, 3) := by decide +kernel
theorem dX6_greatestDivisor_23 : decode cX6_greatestDivisor 23 = .ok (.lload 4, 2) := by decide +kernel
theorem dX6_greatestDivisor_25 : decode cX6_greatestDivisor 25 = .ok (.lload 6, 2) := by decide +kernel
theorem dX6_greatestDivisor_27 : decode cX6_greatestDivisor 27 = .ok (.lrem, 1) := by decide +kernel
theorem dX6_greatestDivisor_28 : decode cX6_greatestDivisor 28 = .ok (.lstore 9, 2) := by decide +kernel
theorem dX6_greatestDivisor_30 : decode cX6_greatestDivisor 30 = .ok (.lload 6, 2) := by decide +kernel
theorem dX6_greatestDivisor_32 : decode cX6_greatestDivisor 32 = .ok (.lstore 4, 2) := by decide +kernel
theorem dX6_greatestDivisor_34 : decode cX6_greatestDivisor 34 = .ok (.lload 9, 2) := by decide +kernel
theorem dX6_greatestDivisor_36 : decode cX6_greatestDivisor 36 = .ok (.lstore 6, 2) := by decide +kernel
theorem dX6_greatestDivisor_38 : decode cX6_greatestDivisor 38 = .ok (.iinc 8 1, 3) := by decide +kernel
theorem dX6_greatestDivisor_41 : decode cX6_greatestDivisor 41 = .ok (.goto (-32), 3) := by decide +kernel
theorem dX6_greatestDivisor_44 : decode cX6_greatestDivisor 44 = .ok (.lload 4, 2) := by decide +kernel
theorem dX6_greatestDivisor_46 : decode cX6_greatestDivisor 46 = .ok (.lreturn, 1) := by decide +kernel
theorem dX6_bitsOf_0 : decode cX6_bitsOf 0 = .ok (.dload_n 0, 1) := by decide +kernel
theorem dX6_bitsOf_1 : decode cX6_bitsOf 1 = .ok (.dconst 0, 1) := by decide +kernel
theorem dX6_bitsOf_2 : decode cX6_bitsOf 2 = .ok (.dcmp .l, 1) := by decide +kernel
theorem dX6_bitsOf_3 : decode cX6_bitsOf 3 = .ok (.ifCond .ne 5, 3) := by decide +kernel
theorem dX6_bitsOf_6 : decode cX6_bitsOf 6 = .ok (.lconst 0, 1) := by decide +kernel
theorem dX6_bitsOf_7 : decode cX6_bitsOf 7 = .ok (.lreturn, 1) := by decide +kernel
theorem dX6_bitsOf_8 : decode cX6_bitsOf 8 = .ok (.dload_n 0, 1) := by decide +kernel
theorem dX6_bitsOf_9 : decode cX6_bitsOf 9 = .ok (.dconst 0, 1) := by decide +kernel
theorem dX6_bitsOf_10 : decode cX6_bitsOf 10 = .ok (.dcmp .g, 1) := by decide +kernel
theorem dX6_bitsOf_11 : decode cX6_bitsOf 11 = .ok (.ifCond .ge 8, 3) := by decide +kernel
theorem dX6_bitsOf_14 : decode cX6_bitsOf 14 = .ok (.dload_n 0, 1) := by decide +kernel
theorem dX6_bitsOf_15 : decode cX6_bitsOf 15 = .ok (.dneg, 1) := by decide +kernel
theorem dX6_bitsOf_16 : decode cX6_bitsOf 16 = .ok (.goto 4, 3) := by decide +kernel
theorem dX6_bitsOf_19 : decode cX6_bitsOf 19 = .ok (.dload_n 0, 1) := by decide +kernel
theorem dX6_bitsOf_20 : decode cX6_bitsOf 20 = .ok (.dstore_n 2, 1) := by decide +kernel
theorem dX6_bitsOf_21 : decode cX6_bitsOf 21 = .ok (.ldc2_w 338, 3) := by decide +kernel
theorem dX6_bitsOf_24 : decode cX6_bitsOf 24 = .ok (.lstore 4, 2) := by decide +kernel
theorem dX6_bitsOf_26 : decode cX6_bitsOf 26 = .ok (.iconst 0, 1) := by decide +kernel
theorem dX6_bitsOf_27 : decode cX6_bitsOf 27 = .ok (.istore 6, 2) := by decide +kernel
theorem dX6_bitsOf_29 : decode cX6_bitsOf 29 = .ok (.iload 6, 2) := by decide +kernel
theorem dX6_bitsOf_31 : decode cX6_bitsOf 31 = .ok (.sipush 1100, 3) := by decide +kernel
theorem dX6_bitsOf_34 : decode cX6_bitsOf 34 = .ok (.if_icmp .ge 29, 3) := by decide +kernel
theorem dX6_bitsOf_37 : decode cX6_bitsOf 37 = .ok (.dload_n 2, 1) := by decide +kernel
theorem dX6_bitsOf_38 : decode cX6_bitsOf 38 = .ok (.ldc2_w 340, 3) := by decide +kernel
theorem dX6_bitsOf_41 : decode cX6_bitsOf 41 = .ok (.dcmp .l, 1) := by decide +kernel
theorem dX6_bitsOf_42 : decode cX6_bitsOf 42 = .ok (.ifCond .lt 21, 3) := by decide +kernel
theorem dX6_bitsOf_45 : decode cX6_bitsOf 45 = .ok (.dload_n 2, 1) := by decide +kernel
theorem dX6_bitsOf_46 : decode cX6_bitsOf 46 = .ok (.ldc2_w 340, 3) := by decide +kernel
theorem dX6_bitsOf_49 : decode cX6_bitsOf 49 = .ok (.ddiv, 1) := by decide +kernel
theorem dX6_bitsOf_50 : decode cX6_bitsOf 50 = .ok (.dstore_n 2, 1) := by decide +kernel
theorem dX6_bitsOf_51 : decode cX6_bitsOf 51 = .ok (.lload 4, 2) := by decide +kernel
theorem dX6_bitsOf_53 : decode cX6_bitsOf 53 = .ok (.lconst 1, 1) := by decide +kernel
theorem dX6_bitsOf_54 : decode cX6_bitsOf 54 = .ok (.ladd, 1) := by decide +kernel
theorem dX6_bitsOf_55 : decode cX6_bitsOf 55 = .ok (.lstore 4, 2) := by decide +kernel
theorem dX6_bitsOf_57 : decode cX6_bitsOf 57 = .ok (.iinc 6 1, 3) := by decide +kernel
theorem dX6_bitsOf_60 : decode cX6_bitsOf 60 = .ok (.goto (-31), 3) := by decide +kernel
theorem dX6_bitsOf_63 : decode cX6_bitsOf 63 = .ok (.iconst 0, 1) := by decide +kernel
theorem dX6_bitsOf_64 : decode cX6_bitsOf 64 = .ok (.istore 6, 2) := by decide +kernel
theorem dX6_bitsOf_66 : decode cX6_bitsOf 66 = .ok (.iload 6, 2) := by decide +kernel
theorem dX6_bitsOf_68 : decode cX6_bitsOf 68 = .ok (.sipush 1100, 3) := by decide +kernel
theorem dX6_bitsOf_71 : decode cX6_bitsOf 71 = .ok (.if_icmp .ge 27, 3) := by decide +kernel
theorem dX6_bitsOf_74 : decode cX6_bitsOf 74 = .ok (.dload_n 2, 1) := by decide +kernel
theorem dX6_bitsOf_75 : decode cX6_bitsOf 75 = .ok (.dconst 1, 1) := by decide +kernel
theorem dX6_bitsOf_76 : decode cX6_bitsOf 76 = .ok (.dcmp .g, 1) := by decide +kernel
theorem dX6_bitsOf_77 : decode cX6_bitsOf 77 = .ok (.ifCond .ge 21, 3) := by decide +kernel
theorem dX6_bitsOf_80 : decode cX6_bitsOf 80 = .ok (.dload_n 2, 1) := by decide +kernel
theorem dX6_bitsOf_81 : decode cX6_bitsOf 81 = .ok (.ldc2_w 340, 3) := by decide +kernel
theorem dX6_bitsOf_84 : decode cX6_bitsOf 84 = .ok (.dmul, 1) := by decide +kernel
theorem dX6_bitsOf_85 : decode cX6_bitsOf 85 = .ok (.dstore_n 2, 1) := by decide +kernel
theorem dX6_bitsOf_86 : decode cX6_bitsOf 86 = .ok (.lload 4, 2) := by decide +kernel
theorem dX6_bitsOf_88 : decode cX6_bitsOf 88 = .ok (.lconst 1, 1) := by decide +kernel
theorem dX6_bitsOf_89 : decode cX6_bitsOf 89 = .ok (.lsub, 1) := by decide +kernel
theorem dX6_bitsOf_90 : decode cX6_bitsOf 90 = .ok (.lstore 4, 2) := by decide +kernel
theorem dX6_bitsOf_92 : decode cX6_bitsOf 92 = .ok (.iinc 6 1, 3) := by decide +kernel
theorem dX6_bitsOf_95 : decode cX6_bitsOf 95 = .ok (.goto (-29), 3) := by decide +kernel
theorem dX6_bitsOf_98 : decode cX6_bitsOf 98 = .ok (.dload_n 2, 1) := by decide +kernel
theorem dX6_bitsOf_99 : decode cX6_bitsOf 99 = .ok (.dconst 1, 1) := by decide +kernel
theorem dX6_bitsOf_100 : decode cX6_bitsOf 100 = .ok (.dsub, 1) := by decide +kernel
theorem dX6_bitsOf_101 : decode cX6_bitsOf 101 = .ok (.ldc2_w 342, 3) := by decide +kernel
theorem dX6_bitsOf_104 : decode cX6_bitsOf 104 = .ok (.dmul, 1) := by decide +kernel
theorem dX6_bitsOf_105 : decode cX6_bitsOf 105 = .ok (.d2l, 1) := by decide +kernel
theorem dX6_bitsOf_106 : decode cX6_bitsOf 106 = .ok (.lstore 6, 2) := by decide +kernel
theorem dX6_bitsOf_108 : decode cX6_bitsOf 108 = .ok (.dload_n 0, 1) := by decide +kernel
theorem dX6_bitsOf_109 : decode cX6_bitsOf 109 = .ok (.dconst 0, 1) := by decide +kernel
theorem dX6_bitsOf_110 : decode cX6_bitsOf 110 = .ok (.dcmp .g, 1) := by decide +kernel
theorem dX6_bitsOf_111 : decode cX6_bitsOf 111 = .ok (.ifCond .ge 9, 3) := by decide +kernel
theorem dX6_bitsOf_114 : decode cX6_bitsOf 114 = .ok (.ldc2_w 344, 3) := by decide +kernel
theorem dX6_bitsOf_117 : decode cX6_bitsOf 117 = .ok (.goto 4, 3) := by decide +kernel
theorem dX6_bitsOf_120 : decode cX6_bitsOf 120 = .ok (.lconst 0, 1) := by decide +kernel
theorem dX6_bitsOf_121 : decode cX6_bitsOf 121 = .ok (.lstore 8, 2) := by decide +kernel
theorem dX6_bitsOf_123 : decode cX6_bitsOf 123 = .ok (.lload 8, 2) := by decide +kernel
theorem dX6_bitsOf_125 : decode cX6_bitsOf 125 = .ok (.lload 4, 2) := by decide +kernel
theorem dX6_bitsOf_127 : decode cX6_bitsOf 127 = .ok (.bipush 52, 2) := by decide +kernel
theorem dX6_bitsOf_129 : decode cX6_bitsOf 129 = .ok (.lshl, 1) := by decide +kernel
theorem dX6_bitsOf_130 : decode cX6_bitsOf 130 = .ok (.lor, 1) := by decide +kernel
theorem dX6_bitsOf_131 : decode cX6_bitsOf 131 = .ok (.lload 6, 2) := by decide +kernel
theorem dX6_bitsOf_133 : decode cX6_bitsOf 133 = .ok (.lor, 1) := by decide +kernel
theorem dX6_bitsOf_134 : decode cX6_bitsOf 134 = .ok (.lreturn, 1) := by decide +kernel
theorem dX7_init_0 : decode cX7_init 0 = .ok (.aload_n 0, 1) := by decide +kernel
theorem dX7_init_1 : decode cX7_init 1 = .ok (.invokespecial 1, 3) := by decide +kernel
theorem dX7_init_4 : decode cX7_init 4 = .ok (.aload_n 0, 1) := by decide +kernel
theorem dX7_init_5 : decode cX7_init 5 = .ok (.bipush 52, 2) := by decide +kernel
theorem dX7_init_7 : decode cX7_init 7 = .ok (.newarray .int, 2) := by decide +kernel
theorem dX7_init_9 : decode cX7_init 9 = .ok (.putfield 7, 3) := by decide +kernel
theorem dX7_init_12 : decode cX7_init 12 = .ok (.aload_n 0, 1) := by decide +kernel
theorem dX7_init_13 : decode cX7_init 13 = .ok (.bipush 52, 2) := by decide +kernel
theorem dX7_init_15 : decode cX7_init 15 = .ok (.newarray .int, 2) := by decide +kernel
theorem dX7_init_17 : decode cX7_init 17 = .ok (.putfield 13, 3) := by decide +kernel
theorem dX7_init_20 : decode cX7_init 20 = .ok (.aload_n 0, 1) := by decide +kernel
theorem dX7_init_21 : decode cX7_init 21 = .ok (.sipush 416, 3) := by decide +kernel
theorem dX7_init_24 : decode cX7_init 24 = .ok (.newarray .int, 2) := by decide +kernel
theorem dX7_init_26 : decode cX7_init 26 = .ok (.putfield 16, 3) := by decide +kernel
theorem dX7_init_29 : decode cX7_init 29 = .ok (.aload_n 0, 1) := by decide +kernel
theorem dX7_init_30 : decode cX7_init 30 = .ok (.bipush 104, 2) := by decide +kernel
theorem dX7_init_32 : decode cX7_init 32 = .ok (.newarray .int, 2) := by decide +kernel
theorem dX7_init_34 : decode cX7_init 34 = .ok (.putfield 19, 3) := by decide +kernel
theorem dX7_init_37 : decode cX7_init 37 = .ok (.aload_n 0, 1) := by decide +kernel
theorem dX7_init_38 : decode cX7_init 38 = .ok (.bipush 60, 2) := by decide +kernel
theorem dX7_init_40 : decode cX7_init 40 = .ok (.newarray .int, 2) := by decide +kernel
theorem dX7_init_42 : decode cX7_init 42 = .ok (.putfield 22, 3) := by decide +kernel
theorem dX7_init_45 : decode cX7_init 45 = .ok (.aload_n 0, 1) := by decide +kernel
theorem dX7_init_46 : decode cX7_init 46 = .ok (.bipush 7, 2) := by decide +kernel
theorem dX7_init_48 : decode cX7_init 48 = .ok (.newarray .int, 2) := by decide +kernel
theorem dX7_init_50 : decode cX7_init 50 = .ok (.putfield 25, 3) := by decide +kernel
theorem dX7_init_53 : decode cX7_init 53 = .ok (.aload_n 0, 1) := by decide +kernel
theorem dX7_init_54 : decode cX7_init 54 = .ok (.bipush 42, 2) := by decide +kernel
theorem dX7_init_56 : decode cX7_init 56 = .ok (.newarray .long, 2) := by decide +kernel
theorem dX7_init_58 : decode cX7_init 58 = .ok (.putfield 28, 3) := by decide +kernel
theorem dX7_init_61 : decode cX7_init 61 = .ok (.aload_n 0, 1) := by decide +kernel
theorem dX7_init_62 : decode cX7_init 62 = .ok (.bipush 36, 2) := by decide +kernel
theorem dX7_init_64 : decode cX7_init 64 = .ok (.newarray .long, 2) := by decide +kernel
theorem dX7_init_66 : decode cX7_init 66 = .ok (.putfield 32, 3) := by decide +kernel
theorem dX7_init_69 : decode cX7_init 69 = .ok (.aload_n 0, 1) := by decide +kernel
theorem dX7_init_70 : decode cX7_init 70 = .ok (.bipush 7, 2) := by decide +kernel
theorem dX7_init_72 : decode cX7_init 72 = .ok (.newarray .long, 2) := by decide +kernel
theorem dX7_init_74 : decode cX7_init 74 = .ok (.putfield 35, 3) := by decide +kernel
theorem dX7_init_77 : decode cX7_init 77 = .ok (.aload_n 0, 1) := by decide +kernel
theorem dX7_init_78 : decode cX7_init 78 = .ok (.bipush 80, 2) := by decide +kernel
theorem dX7_init_80 : decode cX7_init 80 = .ok (.newarray .int, 2) := by decide +kernel
theorem dX7_init_82 : decode cX7_init 82 = .ok (.putfield 38, 3) := by decide +kernel
theorem dX7_init_85 : decode cX7_init 85 = .ok (.aload_n 0, 1) := by decide +kernel
theorem dX7_init_86 : decode cX7_init 86 = .ok (.getfield 7, 3) := by decide +kernel
theorem dX7_init_89 : decode cX7_init 89 = .ok (.bipush 49, 2) := by decide +kernel
theorem dX7_init_91 : decode cX7_init 91 = .ok (.sipush 150, 3) := by decide +kernel
theorem dX7_init_94 : decode cX7_init 94 = .ok (.iastore, 1) := by decide +kernel
theorem dX7_init_95 : decode cX7_init 95 = .ok (.aload_n 0, 1) := by decide +kernel
theorem dX7_init_96 : decode cX7_init 96 = .ok (.getfield 7, 3) := by decide +kernel
theorem dX7_init_99 : decode cX7_init 99 = .ok (.bipush 51, 2) := by decide +kernel
theorem dX7_init_101 : decode cX7_init 101 = .ok (.iconst 1, 1) := by decide +kernel
theorem dX7_init_102 : decode cX7_init 102 = .ok (.iastore, 1) := by decide +kernel
theorem dX7_init_103 : decode cX7_init 103 = .ok (.return_, 1) := by decide +kernel
theorem dX7_thrown_0 : decode cX7_thrown 0 = .ok (.aload_n 0, 1) := by decide +kernel
theorem dX7_thrown_1 : decode cX7_thrown 1 = .ok (.getfield 41, 3) := by decide +kernel
theorem dX7_thrown_4 : decode cX7_thrown 4 = .ok (.ireturn, 1) := by decide +kernel
theorem dX7_within_0 : decode cX7_within 0 = .ok (.iload_n 0, 1) := by decide +kernel
theorem dX7_within_1 : decode cX7_within 1 = .ok (.iload_n 1, 1) := by decide +kernel
theorem dX7_within_2 : decode cX7_within 2 = .ok (.if_icmp .lt 12, 3) := by decide +kernel
theorem dX7_within_5 : decode cX7_within 5 = .ok (.iload_n 0, 1) := by decide +kernel
theorem dX7_within_6 : decode cX7_within 6 = .ok (.iload_n 2, 1) := by decide +kernel
theorem dX7_within_7 : decode cX7_within 7 = .ok (.if_icmp .gt 7, 3) := by decide +kernel
theorem dX7_within_10 : decode cX7_within 10 = .ok (.iconst 1, 1) := by decide +kernel
theorem dX7_within_11 : decode cX7_within 11 = .ok (.goto 4, 3) := by decide +kernel
theorem dX7_within_14 : decode cX7_within 14 = .ok (.iconst 0, 1) := by decide +kernel
theorem dX7_within_15 : decode cX7_within 15 = .ok (.ireturn, 1) := by decide +kernel
theorem dX7_of_0 : decode cX7_of 0 = .ok (.aload_n 0, 1) := by decide +kernel
theorem dX7_of_1 : decode cX7_of 1 = .ok (.getfield 7, 3) := by decide +kernel
theorem dX7_of_4 : decode cX7_of 4 = .ok (.iconst 4, 1) := by decide +kernel
theorem dX7_of_5 : decode cX7_of 5 = .ok (.iload_n 1, 1) := by decide +kernel
theorem dX7_of_6 : decode cX7_of 6 = .ok (.imul, 1) := by decide +kernel
theorem dX7_of_7 : decode cX7_of 7 = .ok (.iload_n 2, 1) := by decide +kernel
theorem dX7_of_8 : decode cX7_of 8 = .ok (.iadd, 1) := by decide +kernel
theorem dX7_of_9 : decode cX7_of 9 = .ok (.iaload, 1) := by decide +kernel
theorem dX7_of_10 : decode cX7_of 10 = .ok (.ireturn, 1) := by decide +kernel
theorem dX7_isPart_0 : decode cX7_isPart 0 = .ok (.iload_n 1, 1) := by decide +kernel
theorem dX7_isPart_1 : decode cX7_isPart 1 = .ok (.iconst 0, 1) := by decide +kernel
theorem dX7_isPart_2 : decode cX7_isPart 2 = .ok (.aload_n 0, 1) := by decide +kernel
theorem dX7_isPart_3 : decode cX7_isPart 3 = .ok (.getfield 7, 3) := by decide +kernel
theorem dX7_isPart_6 : decode cX7_isPart 6 = .ok (.bipush 48, 2) := by decide +kernel
theorem dX7_isPart_8 : decode cX7_isPart 8 = .ok (.iaload, 1) := by decide +kernel
theorem dX7_isPart_9 : decode cX7_isPart 9 = .ok (.iconst 1, 1) := by decide +kernel
theorem dX7_isPart_10 : decode cX7_isPart 10 = .ok (.isub, 1) := by decide +kernel
theorem dX7_isPart_11 : decode cX7_isPart 11 = .ok (.invokestatic 45, 3) := by decide +kernel
theorem dX7_isPart_14 : decode cX7_isPart 14 = .ok (.ireturn, 1) := by decide +kernel
theorem dX7_is_0 : decode cX7_is 0 = .ok (.aload_n 0, 1) := by decide +kernel
theorem dX7_is_1 : decode cX7_is 1 = .ok (.iload_n 1, 1) := by decide +kernel
theorem dX7_is_2 : decode cX7_is 2 = .ok (.iconst 0, 1) := by decide +kernel
theorem dX7_is_3 : decode cX7_is 3 = .ok (.invokevirtual 49, 3) := by decide +kernel
theorem dX7_is_6 : decode cX7_is 6 = .ok (.iload_n 2, 1) := by decide +kernel
theorem dX7_is_7 : decode cX7_is 7 = .ok (.if_icmp .ne 7, 3) := by decide +kernel
theorem dX7_is_10 : decode cX7_is 10 = .ok (.iconst 1, 1) := by decide +kernel
theorem dX7_is_11 : decode cX7_is 11 = .ok (.goto 4, 3) := by decide +kernel
theorem dX7_is_14 : decode cX7_is 14 = .ok (.iconst 0, 1) := by decide +kernel
theorem dX7_is_15 : decode cX7_is 15 = .ok (.ireturn, 1) := by decide +kernel
theorem dX7_copy_0 : decode cX7_copy 0 = .ok (.iconst 0, 1) := by decide +kernel
theorem dX7_copy_1 : decode cX7_copy 1 = .ok (.istore 5, 2) := by decide +kernel
theorem dX7_copy_3 : decode cX7_copy 3 = .ok (.iload 5, 2) := by decide +kernel
theorem dX7_copy_5 : decode cX7_copy 5 = .ok (.bipush 52, 2) := by decide +kernel
theorem dX7_copy_7 : decode cX7_copy 7 = .ok (.if_icmp .ge 22, 3) := by decide +kernel
theorem dX7_copy_10 : decode cX7_copy 10 = .ok (.aload_n 3, 1) := by decide +kernel
theorem dX7_copy_11 : decode cX7_copy 11 = .ok (.iload 4, 2) := by decide +kernel
theorem dX7_copy_13 : decode cX7_copy 13 = .ok (.iload 5, 2) := by decide +kernel
theorem dX7_copy_15 : decode cX7_copy 15 = .ok (.iadd, 1) := by decide +kernel
theorem dX7_copy_16 : decode cX7_copy 16 = .ok (.aload_n 1, 1) := by decide +kernel
theorem dX7_copy_17 : decode cX7_copy 17 = .ok (.iload_n 2, 1) := by decide +kernel
theorem dX7_copy_18 : decode cX7_copy 18 = .ok (.iload 5, 2) := by decide +kernel
theorem dX7_copy_20 : decode cX7_copy 20 = .ok (.iadd, 1) := by decide +kernel
theorem dX7_copy_21 : decode cX7_copy 21 = .ok (.iaload, 1) := by decide +kernel
theorem dX7_copy_22 : decode cX7_copy 22 = .ok (.iastore, 1) := by decide +kernel
theorem dX7_copy_23 : decode cX7_copy 23 = .ok (.iinc 5 1, 3) := by decide +kernel
theorem dX7_copy_26 : decode cX7_copy 26 = .ok (.goto (-23), 3) := by decide +kernel
theorem dX7_copy_29 : decode cX7_copy 29 = .ok (.return_, 1) := by decide +kernel
theorem dX7_record_0 : decode cX7_record 0 = .ok (.aload_n 0, 1) := by decide +kernel
theorem dX7_record_1 : decode cX7_record 1 = .ok (.getfield 53, 3) := by decide +kernel
theorem dX7_record_4 : decode cX7_record 4 = .ok (.bipush 8, 2) := by decide +kernel
theorem dX7_record_6 : decode cX7_record 6 = .ok (.if_icmp .ne 44, 3) := by decide +kernel
theorem dX7_record_9 : decode cX7_record 9 = .ok (.bipush 52, 2) := by decide +kernel
theorem dX7_record_11 : decode cX7_record 11 = .ok (.istore_n 1, 1) := by decide +kernel
theorem dX7_record_12 : decode cX7_record 12 = .ok (.iload_n 1, 1) := by decide +kernel
theorem dX7_record_13 : decode cX7_record 13 = .ok (.sipush 416, 3) := by decide +kernel
theorem dX7_record_16 : decode cX7_record 16 = .ok (.if_icmp .ge 24, 3) := by decide +kernel
theorem dX7_record_19 : decode cX7_record 19 = .ok (.aload_n 0, 1) := by decide +kernel
theorem dX7_record_20 : decode cX7_record 20 = .ok (.getfield 16, 3) := by decide +kernel
theorem dX7_record_23 : decode cX7_record 23 = .ok (.iload_n 1, 1) := by decide +kernel
theorem dX7_record_24 : decode cX7_record 24 = .ok (.bipush 52, 2) := by decide +kernel
theorem dX7_record_26 : decode cX7_record 26 = .ok (.isub, 1) := by decide +kernel
theorem dX7_record_27 : decode cX7_record 27 = .ok (.aload_n 0, 1) := by decide +kernel
theorem dX7_record_28 : decode cX7_record 28 = .ok (.getfield 16, 3) := by decide +kernel
theorem dX7_record_31 : decode cX7_record 31 = .ok (.iload_n 1, 1) := by decide +kernel
theorem dX7_record_32 : decode cX7_record 32 = .ok (.iaload, 1) := by decide +kernel
theorem dX7_record_33 : decode cX7_record 33 = .ok (.iastore, 1) := by decide +kernel
theorem dX7_record_34 : decode cX7_record 34 = .ok (.iinc 1 1, 3) := by decide +kernel
theorem dX7_record_37 : decode cX7_record 37 = .ok (.goto (-25), 3) := by decide +kernel
theorem dX7_record_40 : decode cX7_record 40 = .ok (.aload_n 0, 1) := by decide +kernel
theorem dX7_record_41 : decode cX7_record 41 = .ok (.dup, 1) := by decide +kernel
theorem dX7_record_42 : decode cX7_record 42 = .ok (.getfield 53, 3) := by decide +kernel
theorem dX7_record_45 : decode cX7_record 45 = .ok (.iconst 1, 1) := by decide +kernel
theorem dX7_record_46 : decode cX7_record 46 = .ok (.isub, 1) := by decide +kernel
theorem dX7_record_47 : decode cX7_record 47 = .ok (.putfield 53, 3) := by decide +kernel
theorem dX7_record_50 : decode cX7_record 50 = .ok (.aload_n 0, 1) := by decide +kernel
theorem dX7_record_51 : decode cX7_record 51 = .ok (.aload_n 0, 1) := by decide +kernel
theorem dX7_record_52 : decode cX7_record 52 = .ok (.getfield 7, 3) := by decide +kernel
theorem dX7_record_55 : decode cX7_record 55 = .ok (.iconst 0, 1) := by decide +kernel
theorem dX7_record_56 : decode cX7_record 56 = .ok (.aload_n 0, 1) := by decide +kernel
theorem dX7_record_57 : decode cX7_record 57 = .ok (.getfield 16, 3) := by decide +kernel
theorem dX7_record_60 : decode cX7_record 60 = .ok (.bipush 52, 2) := by decide +kernel
theorem dX7_record_62 : decode cX7_record 62 = .ok (.aload_n 0, 1) := by decide +kernel
theorem dX7_record_63 : decode cX7_record 63 = .ok (.getfield 53, 3) := by decide +kernel
theorem dX7_record_66 : decode cX7_record 66 = .ok (.imul, 1) := by decide +kernel
theorem dX7_record_67 : decode cX7_record 67 = .ok (.invokevirtual 56, 3) := by decide +kernel
theorem dX7_record_70 : decode cX7_record 70 = .ok (.aload_n 0, 1) := by decide +kernel
theorem dX7_record_71 : decode cX7_record 71 = .ok (.dup, 1) := by decide +kernel
theorem dX7_record_72 : decode cX7_record 72 = .ok (.getfield 53, 3) := by decide +kernel
theorem dX7_record_75 : decode cX7_record 75 = .ok (.iconst 1, 1) := by decide +kernel
theorem dX7_record_76 : decode cX7_record 76 = .ok (.iadd, 1) := by decide +kernel
theorem dX7_record_77 : decode cX7_record 77 = .ok (.putfield 53, 3) := by decide +kernel
theorem dX7_record_80 : decode cX7_record 80 = .ok (.return_, 1) := by decide +kernel
theorem dX7_amplifiers_0 : decode cX7_amplifiers 0 = .ok (.iconst 0, 1) := by decide +kernel
theorem dX7_amplifiers_1 : decode cX7_amplifiers 1 = .ok (.istore_n 1, 1) := by decide +kernel
theorem dX7_amplifiers_2 : decode cX7_amplifiers 2 = .ok (.iconst 0, 1) := by decide +kernel
theorem dX7_amplifiers_3 : decode cX7_amplifiers 3 = .ok (.istore_n 2, 1) := by decide +kernel
theorem dX7_amplifiers_4 : decode cX7_amplifiers 4 = .ok (.iload_n 2, 1) := by decide +kernel
theorem dX7_amplifiers_5 : decode cX7_amplifiers 5 = .ok (.aload_n 0, 1) := by decide +kernel
theorem dX7_amplifiers_6 : decode cX7_amplifiers 6 = .ok (.getfield 7, 3) := by decide +kernel
theorem dX7_amplifiers_9 : decode cX7_amplifiers 9 = .ok (.bipush 48, 2) := by decide +kernel
theorem dX7_amplifiers_11 : decode cX7_amplifiers 11 = .ok (.iaload, 1) := by decide +kernel
theorem dX7_amplifiers_12 : decode cX7_amplifiers 12 = .ok (.if_icmp .ge 26, 3) := by decide +kernel
theorem dX7_amplifiers_15 : decode cX7_amplifiers 15 = .ok (.iload_n 1, 1) := by decide +kernel
theorem dX7_amplifiers_16 : decode cX7_amplifiers 16 = .ok (.aload_n 0, 1) := by decide +kernel
theorem dX7_amplifiers_17 : decode cX7_amplifiers 17 = .ok (.iload_n 2, 1) := by decide +kernel
theorem dX7_amplifiers_18 : decode cX7_amplifiers 18 = .ok (.iconst 2, 1) := by decide +kernel
theorem dX7_amplifiers_19 : decode cX7_amplifiers 19 = .ok (.invokevirtual 60, 3) := by decide +kernel
theorem dX7_amplifiers_22 : decode cX7_amplifiers 22 = .ok (.ifCond .eq 7, 3) := by decide +kernel
theorem dX7_amplifiers_25 : decode cX7_amplifiers 25 = .ok (.iconst 1, 1) := by decide +kernel
theorem dX7_amplifiers_26 : decode cX7_amplifiers 26 = .ok (.goto 4, 3) := by decide +kernel
theorem dX7_amplifiers_29 : decode cX7_amplifiers 29 = .ok (.iconst 0, 1) := by decide +kernel
theorem dX7_amplifiers_30 : decode cX7_amplifiers 30 = .ok (.iadd, 1) := by decide +kernel
theorem dX7_amplifiers_31 : decode cX7_amplifiers 31 = .ok (.istore_n 1, 1) := by decide +kernel
theorem dX7_amplifiers_32 : decode cX7_amplifiers 32 = .ok (.iinc 2 1, 3) := by decide +kernel
theorem dX7_amplifiers_35 : decode cX7_amplifiers 35 = .ok (.goto (-31), 3) := by decide +kernel
theorem dX7_amplifiers_38 : decode cX7_amplifiers 38 = .ok (.iload_n 1, 1) := by decide +kernel
theorem dX7_amplifiers_39 : decode cX7_amplifiers 39 = .ok (.ireturn, 1) := by decide +kernel
theorem dX7_partOf_0 : decode cX7_partOf 0 = .ok (.iload_n 1, 1) := by decide +kernel
theorem dX7_partOf_1 : decode cX7_partOf 1 = .ok (.istore_n 2, 1) := by decide +kernel
theorem dX7_partOf_2 : decode cX7_partOf 2 = .ok (.iconst 0, 1) := by decide +kernel
theorem dX7_partOf_3 : decode cX7_partOf 3 = .ok (.istore_n 3, 1) := by decide +kernel
theorem dX7_partOf_4 : decode cX7_partOf 4 = .ok (.aload_n 0, 1) := by decide +kernel
theorem dX7_partOf_5 : decode cX7_partOf 5 = .ok (.iload_n 3, 1) := by decide +kernel
theorem dX7_partOf_6 : decode cX7_partOf 6 = .ok (.iconst 2, 1) := by decide +kernel
theorem dX7_partOf_7 : decode cX7_partOf 7 = .ok (.invokevirtual 60, 3) := by decide +kernel
theorem dX7_partOf_10 : decode cX7_partOf 10 = .ok (.ifCond .eq 7, 3) := by decide +kernel
theorem dX7_partOf_13 : decode cX7_partOf 13 = .ok (.iload_n 2, 1) := by decide +kernel
theorem dX7_partOf_14 : decode cX7_partOf 14 = .ok (.ifCond .le 26, 3) := by decide +kernel
theorem dX7_partOf_17 : decode cX7_partOf 17 = .ok (.iload_n 2, 1) := by decide +kernel
theorem dX7_partOf_18 : decode cX7_partOf 18 = .ok (.aload_n 0, 1) := by decide +kernel
theorem dX7_partOf_19 : decode cX7_partOf 19 = .ok (.iload_n 3, 1) := by decide +kernel
theorem dX7_partOf_20 : decode cX7_partOf 20 = .ok (.iconst 2, 1) := by decide +kernel
theorem dX7_partOf_21 : decode cX7_partOf 21 = .ok (.invokevirtual 60, 3) := by decide +kernel
theorem dX7_partOf_24 : decode cX7_partOf 24 = .ok (.ifCond .eq 7, 3) := by decide +kernel
theorem dX7_partOf_27 : decode cX7_partOf 27 = .ok (.iconst 1, 1) := by decide +kernel
theorem dX7_partOf_28 : decode cX7_partOf 28 = .ok (.goto 4, 3) := by decide +kernel
theorem dX7_partOf_31 : decode cX7_partOf 31 = .ok (.iconst 0, 1) := by decide +kernel
theorem dX7_partOf_32 : decode cX7_partOf 32 = .ok (.isub, 1) := by decide +kernel
theorem dX7_partOf_33 : decode cX7_partOf 33 = .ok (.istore_n 2, 1) := by decide +kernel
theorem dX7_partOf_34 : decode cX7_partOf 34 = .ok (.iinc 3 1, 3) := by decide +kernel
theorem dX7_partOf_37 : decode cX7_partOf 37 = .ok (.goto (-33), 3) := by decide +kernel
theorem dX7_partOf_40 : decode cX7_partOf 40 = .ok (.iload_n 3, 1) := by decide +kernel
theorem dX7_partOf_41 : decode cX7_partOf 41 = .ok (.ireturn, 1) := by decide +kernel
theorem dX7_cases_0 : decode cX7_cases 0 = .ok (.iconst 1, 1) := by decide +kernel
theorem dX7_cases_1 : decode cX7_cases 1 = .ok (.istore_n 1, 1) := by decide +kernel
theorem dX7_cases_2 : decode cX7_cases 2 = .ok (.iconst 0, 1) := by decide +kernel
theorem dX7_cases_3 : decode cX7_cases 3 = .ok (.istore_n 2, 1) := by decide +kernel
theorem dX7_cases_4 : decode cX7_cases 4 = .ok (.iload_n 2, 1) := by decide +kernel
theorem dX7_cases_5 : decode cX7_cases 5 = .ok (.aload_n 0, 1) := by decide +kernel
theorem dX7_cases_6 : decode cX7_cases 6 = .ok (.invokevirtual 64, 3) := by decide +kernel
theorem dX7_cases_9 : decode cX7_cases 9 = .ok (.if_icmp .ge 13, 3) := by decide +kernel
theorem dX7_cases_12 : decode cX7_cases 12 = .ok (.iload_n 1, 1) := by decide +kernel
theorem dX7_cases_13 : decode cX7_cases 13 = .ok (.iconst 3, 1) := by decide +kernel
theorem dX7_cases_14 : decode cX7_cases 14 = .ok (.imul, 1) := by decide +kernel
theorem dX7_cases_15 : decode cX7_cases 15 = .ok (.istore_n 1, 1) := by decide +kernel
theorem dX7_cases_16 : decode cX7_cases 16 = .ok (.iinc 2 1, 3) := by decide +kernel
theorem dX7_cases_19 : decode cX7_cases 19 = .ok (.goto (-15), 3) := by decide +kernel
theorem dX7_cases_22 : decode cX7_cases 22 = .ok (.iload_n 1, 1) := by decide +kernel
theorem dX7_cases_23 : decode cX7_cases 23 = .ok (.ireturn, 1) := by decide +kernel
theorem dX7_stateIn_0 : decode cX7_stateIn 0 = .ok (.iload_n 0, 1) := by decide +kernel
theorem dX7_stateIn_1 : decode cX7_stateIn 1 = .ok (.istore_n 2, 1) := by decide +kernel
theorem dX7_stateIn_2 : decode cX7_stateIn 2 = .ok (.iconst 0, 1) := by decide +kernel
theorem dX7_stateIn_3 : decode cX7_stateIn 3 = .ok (.istore_n 3, 1) := by decide +kernel
theorem dX7_stateIn_4 : decode cX7_stateIn 4 = .ok (.iload_n 3, 1) := by decide +kernel
theorem dX7_stateIn_5 : decode cX7_stateIn 5 = .ok (.iload_n 1, 1) := by decide +kernel
theorem dX7_stateIn_6 : decode cX7_stateIn 6 = .ok (.if_icmp .ge 13, 3) := by decide +kernel
theorem dX7_stateIn_9 : decode cX7_stateIn 9 = .ok (.iload_n 2, 1) := by decide +kernel
theorem dX7_stateIn_10 : decode cX7_stateIn 10 = .ok (.iconst 3, 1) := by decide +kernel
theorem dX7_stateIn_11 : decode cX7_stateIn 11 = .ok (.idiv, 1) := by decide +kernel
theorem dX7_stateIn_12 : decode cX7_stateIn 12 = .ok (.istore_n 2, 1) := by decide +kernel
theorem dX7_stateIn_13 : decode cX7_stateIn 13 = .ok (.iinc 3 1, 3) := by decide +kernel
theorem dX7_stateIn_16 : decode cX7_stateIn 16 = .ok (.goto (-12), 3) := by decide +kernel
theorem dX7_stateIn_19 : decode cX7_stateIn 19 = .ok (.iload_n 2, 1) := by decide +kernel
theorem dX7_stateIn_20 : decode cX7_stateIn 20 = .ok (.iconst 3, 1) := by decide +kernel
theorem dX7_stateIn_21 : decode cX7_stateIn 21 = .ok (.irem, 1) := by decide +kernel
theorem dX7_stateIn_22 : decode cX7_stateIn 22 = .ok (.ireturn, 1) := by decide +kernel
theorem dX7_isAt_0 : decode cX7_isAt 0 = .ok (.aload_n 0, 1) := by decide +kernel
theorem dX7_isAt_1 : decode cX7_isAt 1 = .ok (.iload_n 1, 1) := by decide +kernel
theorem dX7_isAt_2 : decode cX7_isAt 2 = .ok (.iconst 1, 1) := by decide +kernel
theorem dX7_isAt_3 : decode cX7_isAt 3 = .ok (.invokevirtual 49, 3) := by decide +kernel
theorem dX7_isAt_6 : decode cX7_isAt 6 = .ok (.iload_n 2, 1) := by decide +kernel
theorem dX7_isAt_7 : decode cX7_isAt 7 = .ok (.if_icmp .eq 41, 3) := by decide +kernel
theorem dX7_isAt_10 : decode cX7_isAt 10 = .ok (.aload_n 0, 1) := by decide +kernel
theorem dX7_isAt_11 : decode cX7_isAt 11 = .ok (.iload_n 1, 1) := by decide +kernel
theorem dX7_isAt_12 : decode cX7_isAt 12 = .ok (.iconst 1, 1) := by decide +kernel
theorem dX7_isAt_13 : decode cX7_isAt 13 = .ok (.invokevirtual 60, 3) := by decide +kernel
theorem dX7_isAt_16 : decode cX7_isAt 16 = .ok (.ifCond .ne 13, 3) := by decide +kernel
theorem dX7_isAt_19 : decode cX7_isAt 19 = .ok (.aload_n 0, 1) := by decide +kernel
theorem dX7_isAt_20 : decode cX7_isAt 20 = .ok (.iload_n 1, 1) := by decide +kernel
theorem dX7_isAt_21 : decode cX7_isAt 21 = .ok (.iconst 2, 1) := by decide +kernel
theorem dX7_isAt_22 : decode cX7_isAt 22 = .ok (.invokevirtual 49, 3) := by decide +kernel
theorem dX7_isAt_25 : decode cX7_isAt 25 = .ok (.iload_n 2, 1) := by decide +kernel
theorem dX7_isAt_26 : decode cX7_isAt 26 = .ok (.if_icmp .eq 22, 3) := by decide +kernel
theorem dX7_isAt_29 : decode cX7_isAt 29 = .ok (.aload_n 0, 1) := by decide +kernel
theorem dX7_isAt_30 : decode cX7_isAt 30 = .ok (.iload_n 1, 1) := by decide +kernel
theorem dX7_isAt_31 : decode cX7_isAt 31 = .ok (.iconst 2, 1) := by decide +kernel
theorem dX7_isAt_32 : decode cX7_isAt 32 = .ok (.invokevirtual 60, 3) := by decide +kernel
theorem dX7_isAt_35 : decode cX7_isAt 35 = .ok (.ifCond .eq 17, 3) := by decide +kernel
theorem dX7_isAt_38 : decode cX7_isAt 38 = .ok (.aload_n 0, 1) := by decide +kernel
theorem dX7_isAt_39 : decode cX7_isAt 39 = .ok (.iload_n 1, 1) := by decide +kernel
theorem dX7_isAt_40 : decode cX7_isAt 40 = .ok (.iconst 3, 1) := by decide +kernel
theorem dX7_isAt_41 : decode cX7_isAt 41 = .ok (.invokevirtual 49, 3) := by decide +kernel
theorem dX7_isAt_44 : decode cX7_isAt 44 = .ok (.iload_n 2, 1) := by decide +kernel
theorem dX7_isAt_45 : decode cX7_isAt 45 = .ok (.if_icmp .ne 7, 3) := by decide +kernel
theorem dX7_isAt_48 : decode cX7_isAt 48 = .ok (.iconst 1, 1) := by decide +kernel
theorem dX7_isAt_49 : decode cX7_isAt 49 = .ok (.goto 4, 3) := by decide +kernel
theorem dX7_isAt_52 : decode cX7_isAt 52 = .ok (.iconst 0, 1) := by decide +kernel
theorem dX7_isAt_53 : decode cX7_isAt 53 = .ok (.ireturn, 1) := by decide +kernel
theorem dX7_isUsed_0 : decode cX7_isUsed 0 = .ok (.iconst 0, 1) := by decide +kernel
theorem dX7_isUsed_1 : decode cX7_isUsed 1 = .ok (.istore_n 2, 1) := by decide +kernel
theorem dX7_isUsed_2 : decode cX7_isUsed 2 = .ok (.iconst 0, 1) := by decide +kernel
end
section
theorem dX7_isUsed_3 : decode cX7_isUsed 3 = .ok (.istore_n 3, 1) := by decide +kernel
theorem dX7_isUsed_4 : decode cX7_isUsed 4 = .ok (.iload_n 3, 1) := by decide +kernel
theorem dX7_isUsed_5 : decode cX7_isUsed 5 = .ok (.aload_n 0, 1) := by decide +kernel
theorem dX7_isUsed_6 : decode cX7_isUsed 6 = .ok (.getfield 7, 3) := by decide +kernel
theorem dX7_isUsed_9 : decode cX7_isUsed 9 = .ok (.bipush 48, 2) := by decide +kernel
theorem dX7_isUsed_11 : decode cX7_isUsed 11 = .ok (.iaload, 1) := by decide +kernel
theorem dX7_isUsed_12 : decode cX7_isUsed 12 = .ok (.if_icmp .ge 28, 3) := by decide +kernel
theorem dX7_isUsed_15 : decode cX7_isUsed 15 = .ok (.iload_n 2, 1) := by decide +kernel
theorem dX7_isUsed_16 : decode cX7_isUsed 16 = .ok (.ifCond .ne 12, 3) := by decide +kernel
theorem dX7_isUsed_19 : decode cX7_isUsed 19 = .ok (.aload_n 0, 1) := by decide +kernel
theorem dX7_isUsed_20 : decode cX7_isUsed 20 = .ok (.iload_n 3, 1) := by decide +kernel
theorem dX7_isUsed_21 : decode cX7_isUsed 21 = .ok (.iload_n 1, 1) := by decide +kernel
theorem dX7_isUsed_22 : decode cX7_isUsed 22 = .ok (.invokevirtual 68, 3) := by decide +kernel
theorem dX7_isUsed_25 : decode cX7_isUsed 25 = .ok (.ifCond .eq 7, 3) := by decide +kernel
theorem dX7_isUsed_28 : decode cX7_isUsed 28 = .ok (.iconst 1, 1) := by decide +kernel
theorem dX7_isUsed_29 : decode cX7_isUsed 29 = .ok (.goto 4, 3) := by decide +kernel
theorem dX7_isUsed_32 : decode cX7_isUsed 32 = .ok (.iconst 0, 1) := by decide +kernel
theorem dX7_isUsed_33 : decode cX7_isUsed 33 = .ok (.istore_n 2, 1) := by decide +kernel
theorem dX7_isUsed_34 : decode cX7_isUsed 34 = .ok (.iinc 3 1, 3) := by decide +kernel
theorem dX7_isUsed_37 : decode cX7_isUsed 37 = .ok (.goto (-33), 3) := by decide +kernel
theorem dX7_isUsed_40 : decode cX7_isUsed 40 = .ok (.iload_n 2, 1) := by decide +kernel
theorem dX7_isUsed_41 : decode cX7_isUsed 41 = .ok (.ireturn, 1) := by decide +kernel
theorem dX7_sourceAt_0 : decode cX7_sourceAt 0 = .ok (.iconst (-1), 1) := by decide +kernel
theorem dX7_sourceAt_1 : decode cX7_sourceAt 1 = .ok (.istore_n 2, 1) := by decide +kernel
theorem dX7_sourceAt_2 : decode cX7_sourceAt 2 = .ok (.iconst 0, 1) := by decide +kernel
theorem dX7_sourceAt_3 : decode cX7_sourceAt 3 = .ok (.istore_n 3, 1) := by decide +kernel
theorem dX7_sourceAt_4 : decode cX7_sourceAt 4 = .ok (.iload_n 3, 1) := by decide +kernel
theorem dX7_sourceAt_5 : decode cX7_sourceAt 5 = .ok (.aload_n 0, 1) := by decide +kernel
theorem dX7_sourceAt_6 : decode cX7_sourceAt 6 = .ok (.getfield 7, 3) := by decide +kernel
theorem dX7_sourceAt_9 : decode cX7_sourceAt 9 = .ok (.bipush 48, 2) := by decide +kernel
theorem dX7_sourceAt_11 : decode cX7_sourceAt 11 = .ok (.iaload, 1) := by decide +kernel
theorem dX7_sourceAt_12 : decode cX7_sourceAt 12 = .ok (.if_icmp .ge 34, 3) := by decide +kernel
theorem dX7_sourceAt_15 : decode cX7_sourceAt 15 = .ok (.aload_n 0, 1) := by decide +kernel
theorem dX7_sourceAt_16 : decode cX7_sourceAt 16 = .ok (.iload_n 3, 1) := by decide +kernel
theorem dX7_sourceAt_17 : decode cX7_sourceAt 17 = .ok (.iconst 1, 1) := by decide +kernel
theorem dX7_sourceAt_18 : decode cX7_sourceAt 18 = .ok (.invokevirtual 60, 3) := by decide +kernel
theorem dX7_sourceAt_21 : decode cX7_sourceAt 21 = .ok (.ifCond .eq 17, 3) := by decide +kernel
theorem dX7_sourceAt_24 : decode cX7_sourceAt 24 = .ok (.aload_n 0, 1) := by decide +kernel
theorem dX7_sourceAt_25 : decode cX7_sourceAt 25 = .ok (.iload_n 3, 1) := by decide +kernel
theorem dX7_sourceAt_26 : decode cX7_sourceAt 26 = .ok (.iconst 1, 1) := by decide +kernel
theorem dX7_sourceAt_27 : decode cX7_sourceAt 27 = .ok (.invokevirtual 49, 3) := by decide +kernel
theorem dX7_sourceAt_30 : decode cX7_sourceAt 30 = .ok (.iload_n 1, 1) := by decide +kernel
theorem dX7_sourceAt_31 : decode cX7_sourceAt 31 = .ok (.if_icmp .ne 7, 3) := by decide +kernel
theorem dX7_sourceAt_34 : decode cX7_sourceAt 34 = .ok (.iload_n 3, 1) := by decide +kernel
theorem dX7_sourceAt_35 : decode cX7_sourceAt 35 = .ok (.goto 4, 3) := by decide +kernel
theorem dX7_sourceAt_38 : decode cX7_sourceAt 38 = .ok (.iload_n 2, 1) := by decide +kernel
theorem dX7_sourceAt_39 : decode cX7_sourceAt 39 = .ok (.istore_n 2, 1) := by decide +kernel
theorem dX7_sourceAt_40 : decode cX7_sourceAt 40 = .ok (.iinc 3 1, 3) := by decide +kernel
theorem dX7_sourceAt_43 : decode cX7_sourceAt 43 = .ok (.goto (-39), 3) := by decide +kernel
theorem dX7_sourceAt_46 : decode cX7_sourceAt 46 = .ok (.iload_n 2, 1) := by decide +kernel
theorem dX7_sourceAt_47 : decode cX7_sourceAt 47 = .ok (.ireturn, 1) := by decide +kernel
theorem dX7_isOutput_0 : decode cX7_isOutput 0 = .ok (.iconst 0, 1) := by decide +kernel
theorem dX7_isOutput_1 : decode cX7_isOutput 1 = .ok (.istore_n 2, 1) := by decide +kernel
theorem dX7_isOutput_2 : decode cX7_isOutput 2 = .ok (.iconst 0, 1) := by decide +kernel
theorem dX7_isOutput_3 : decode cX7_isOutput 3 = .ok (.istore_n 3, 1) := by decide +kernel
theorem dX7_isOutput_4 : decode cX7_isOutput 4 = .ok (.iload_n 3, 1) := by decide +kernel
theorem dX7_isOutput_5 : decode cX7_isOutput 5 = .ok (.aload_n 0, 1) := by decide +kernel
theorem dX7_isOutput_6 : decode cX7_isOutput 6 = .ok (.getfield 7, 3) := by decide +kernel
theorem dX7_isOutput_9 : decode cX7_isOutput 9 = .ok (.bipush 48, 2) := by decide +kernel
theorem dX7_isOutput_11 : decode cX7_isOutput 11 = .ok (.iaload, 1) := by decide +kernel
theorem dX7_isOutput_12 : decode cX7_isOutput 12 = .ok (.if_icmp .ge 38, 3) := by decide +kernel
theorem dX7_isOutput_15 : decode cX7_isOutput 15 = .ok (.iload_n 2, 1) := by decide +kernel
theorem dX7_isOutput_16 : decode cX7_isOutput 16 = .ok (.ifCond .ne 22, 3) := by decide +kernel
theorem dX7_isOutput_19 : decode cX7_isOutput 19 = .ok (.aload_n 0, 1) := by decide +kernel
theorem dX7_isOutput_20 : decode cX7_isOutput 20 = .ok (.iload_n 3, 1) := by decide +kernel
theorem dX7_isOutput_21 : decode cX7_isOutput 21 = .ok (.iconst 2, 1) := by decide +kernel
theorem dX7_isOutput_22 : decode cX7_isOutput 22 = .ok (.invokevirtual 60, 3) := by decide +kernel
theorem dX7_isOutput_25 : decode cX7_isOutput 25 = .ok (.ifCond .eq 17, 3) := by decide +kernel
theorem dX7_isOutput_28 : decode cX7_isOutput 28 = .ok (.aload_n 0, 1) := by decide +kernel
theorem dX7_isOutput_29 : decode cX7_isOutput 29 = .ok (.iload_n 3, 1) := by decide +kernel
theorem dX7_isOutput_30 : decode cX7_isOutput 30 = .ok (.iconst 3, 1) := by decide +kernel
theorem dX7_isOutput_31 : decode cX7_isOutput 31 = .ok (.invokevirtual 49, 3) := by decide +kernel
theorem dX7_isOutput_34 : decode cX7_isOutput 34 = .ok (.iload_n 1, 1) := by decide +kernel
theorem dX7_isOutput_35 : decode cX7_isOutput 35 = .ok (.if_icmp .ne 7, 3) := by decide +kernel
theorem dX7_isOutput_38 : decode cX7_isOutput 38 = .ok (.iconst 1, 1) := by decide +kernel
theorem dX7_isOutput_39 : decode cX7_isOutput 39 = .ok (.goto 4, 3) := by decide +kernel
theorem dX7_isOutput_42 : decode cX7_isOutput 42 = .ok (.iconst 0, 1) := by decide +kernel
theorem dX7_isOutput_43 : decode cX7_isOutput 43 = .ok (.istore_n 2, 1) := by decide +kernel
theorem dX7_isOutput_44 : decode cX7_isOutput 44 = .ok (.iinc 3 1, 3) := by decide +kernel
theorem dX7_isOutput_47 : decode cX7_isOutput 47 = .ok (.goto (-43), 3) := by decide +kernel
theorem dX7_isOutput_50 : decode cX7_isOutput 50 = .ok (.iload_n 2, 1) := by decide +kernel
theorem dX7_isOutput_51 : decode cX7_isOutput 51 = .ok (.ireturn, 1) := by decide +kernel
theorem dX7_isFree_0 : decode cX7_isFree 0 = .ok (.iload_n 1, 1) := by decide +kernel
theorem dX7_isFree_1 : decode cX7_isFree 1 = .ok (.ifCond .le 24, 3) := by decide +kernel
theorem dX7_isFree_4 : decode cX7_isFree 4 = .ok (.aload_n 0, 1) := by decide +kernel
theorem dX7_isFree_5 : decode cX7_isFree 5 = .ok (.iload_n 1, 1) := by decide +kernel
theorem dX7_isFree_6 : decode cX7_isFree 6 = .ok (.invokevirtual 71, 3) := by decide +kernel
theorem dX7_isFree_9 : decode cX7_isFree 9 = .ok (.ifCond .eq 16, 3) := by decide +kernel
theorem dX7_isFree_12 : decode cX7_isFree 12 = .ok (.aload_n 0, 1) := by decide +kernel
theorem dX7_isFree_13 : decode cX7_isFree 13 = .ok (.iload_n 1, 1) := by decide +kernel
theorem dX7_isFree_14 : decode cX7_isFree 14 = .ok (.invokevirtual 75, 3) := by decide +kernel
theorem dX7_isFree_17 : decode cX7_isFree 17 = .ok (.iconst (-1), 1) := by decide +kernel
theorem dX7_isFree_18 : decode cX7_isFree 18 = .ok (.if_icmp .ne 7, 3) := by decide +kernel
theorem dX7_isFree_21 : decode cX7_isFree 21 = .ok (.iconst 1, 1) := by decide +kernel
theorem dX7_isFree_22 : decode cX7_isFree 22 = .ok (.goto 4, 3) := by decide +kernel
theorem dX7_isFree_25 : decode cX7_isFree 25 = .ok (.iconst 0, 1) := by decide +kernel
theorem dX7_isFree_26 : decode cX7_isFree 26 = .ok (.ireturn, 1) := by decide +kernel
theorem dX7_layUnknowns_0 : decode cX7_layUnknowns 0 = .ok (.aload_n 0, 1) := by decide +kernel
theorem dX7_layUnknowns_1 : decode cX7_layUnknowns 1 = .ok (.iconst 0, 1) := by decide +kernel
theorem dX7_layUnknowns_2 : decode cX7_layUnknowns 2 = .ok (.putfield 79, 3) := by decide +kernel
theorem dX7_layUnknowns_5 : decode cX7_layUnknowns 5 = .ok (.iconst 0, 1) := by decide +kernel
theorem dX7_layUnknowns_6 : decode cX7_layUnknowns 6 = .ok (.istore_n 1, 1) := by decide +kernel
theorem dX7_layUnknowns_7 : decode cX7_layUnknowns 7 = .ok (.iload_n 1, 1) := by decide +kernel
theorem dX7_layUnknowns_8 : decode cX7_layUnknowns 8 = .ok (.bipush 7, 2) := by decide +kernel
theorem dX7_layUnknowns_10 : decode cX7_layUnknowns 10 = .ok (.if_icmp .ge 53, 3) := by decide +kernel
theorem dX7_layUnknowns_13 : decode cX7_layUnknowns 13 = .ok (.aload_n 0, 1) := by decide +kernel
theorem dX7_layUnknowns_14 : decode cX7_layUnknowns 14 = .ok (.getfield 25, 3) := by decide +kernel
theorem dX7_layUnknowns_17 : decode cX7_layUnknowns 17 = .ok (.iload_n 1, 1) := by decide +kernel
theorem dX7_layUnknowns_18 : decode cX7_layUnknowns 18 = .ok (.aload_n 0, 1) := by decide +kernel
theorem dX7_layUnknowns_19 : decode cX7_layUnknowns 19 = .ok (.iload_n 1, 1) := by decide +kernel
theorem dX7_layUnknowns_20 : decode cX7_layUnknowns 20 = .ok (.invokevirtual 82, 3) := by decide +kernel
theorem dX7_layUnknowns_23 : decode cX7_layUnknowns 23 = .ok (.ifCond .eq 10, 3) := by decide +kernel
theorem dX7_layUnknowns_26 : decode cX7_layUnknowns 26 = .ok (.aload_n 0, 1) := by decide +kernel
theorem dX7_layUnknowns_27 : decode cX7_layUnknowns 27 = .ok (.getfield 79, 3) := by decide +kernel
theorem dX7_layUnknowns_30 : decode cX7_layUnknowns 30 = .ok (.goto 4, 3) := by decide +kernel
theorem dX7_layUnknowns_33 : decode cX7_layUnknowns 33 = .ok (.iconst (-1), 1) := by decide +kernel
theorem dX7_layUnknowns_34 : decode cX7_layUnknowns 34 = .ok (.iastore, 1) := by decide +kernel
theorem dX7_layUnknowns_35 : decode cX7_layUnknowns 35 = .ok (.aload_n 0, 1) := by decide +kernel
theorem dX7_layUnknowns_36 : decode cX7_layUnknowns 36 = .ok (.dup, 1) := by decide +kernel
theorem dX7_layUnknowns_37 : decode cX7_layUnknowns 37 = .ok (.getfield 79, 3) := by decide +kernel
theorem dX7_layUnknowns_40 : decode cX7_layUnknowns 40 = .ok (.aload_n 0, 1) := by decide +kernel
theorem dX7_layUnknowns_41 : decode cX7_layUnknowns 41 = .ok (.iload_n 1, 1) := by decide +kernel
theorem dX7_layUnknowns_42 : decode cX7_layUnknowns 42 = .ok (.invokevirtual 82, 3) := by decide +kernel
theorem dX7_layUnknowns_45 : decode cX7_layUnknowns 45 = .ok (.ifCond .eq 7, 3) := by decide +kernel
theorem dX7_layUnknowns_48 : decode cX7_layUnknowns 48 = .ok (.iconst 1, 1) := by decide +kernel
theorem dX7_layUnknowns_49 : decode cX7_layUnknowns 49 = .ok (.goto 4, 3) := by decide +kernel
theorem dX7_layUnknowns_52 : decode cX7_layUnknowns 52 = .ok (.iconst 0, 1) := by decide +kernel
theorem dX7_layUnknowns_53 : decode cX7_layUnknowns 53 = .ok (.iadd, 1) := by decide +kernel
theorem dX7_layUnknowns_54 : decode cX7_layUnknowns 54 = .ok (.putfield 79, 3) := by decide +kernel
theorem dX7_layUnknowns_57 : decode cX7_layUnknowns 57 = .ok (.iinc 1 1, 3) := by decide +kernel
theorem dX7_layUnknowns_60 : decode cX7_layUnknowns 60 = .ok (.goto (-53), 3) := by decide +kernel
theorem dX7_layUnknowns_63 : decode cX7_layUnknowns 63 = .ok (.return_, 1) := by decide +kernel
theorem dX7_addTo_0 : decode cX7_addTo 0 = .ok (.aload_n 0, 1) := by decide +kernel
theorem dX7_addTo_1 : decode cX7_addTo 1 = .ok (.getfield 25, 3) := by decide +kernel
theorem dX7_addTo_4 : decode cX7_addTo 4 = .ok (.iload_n 1, 1) := by decide +kernel
theorem dX7_addTo_5 : decode cX7_addTo 5 = .ok (.iaload, 1) := by decide +kernel
theorem dX7_addTo_6 : decode cX7_addTo 6 = .ok (.iconst (-1), 1) := by decide +kernel
theorem dX7_addTo_7 : decode cX7_addTo 7 = .ok (.if_icmp .eq 29, 3) := by decide +kernel
theorem dX7_addTo_10 : decode cX7_addTo 10 = .ok (.aload_n 0, 1) := by decide +kernel
theorem dX7_addTo_11 : decode cX7_addTo 11 = .ok (.getfield 28, 3) := by decide +kernel
theorem dX7_addTo_14 : decode cX7_addTo 14 = .ok (.bipush 7, 2) := by decide +kernel
theorem dX7_addTo_16 : decode cX7_addTo 16 = .ok (.aload_n 0, 1) := by decide +kernel
theorem dX7_addTo_17 : decode cX7_addTo 17 = .ok (.getfield 85, 3) := by decide +kernel
theorem dX7_addTo_20 : decode cX7_addTo 20 = .ok (.imul, 1) := by decide +kernel
theorem dX7_addTo_21 : decode cX7_addTo 21 = .ok (.aload_n 0, 1) := by decide +kernel
theorem dX7_addTo_22 : decode cX7_addTo 22 = .ok (.getfield 25, 3) := by decide +kernel
theorem dX7_addTo_25 : decode cX7_addTo 25 = .ok (.iload_n 1, 1) := by decide +kernel
theorem dX7_addTo_26 : decode cX7_addTo 26 = .ok (.iaload, 1) := by decide +kernel
theorem dX7_addTo_27 : decode cX7_addTo 27 = .ok (.iadd, 1) := by decide +kernel
theorem dX7_addTo_28 : decode cX7_addTo 28 = .ok (.dup2, 1) := by decide +kernel
theorem dX7_addTo_29 : decode cX7_addTo 29 = .ok (.laload, 1) := by decide +kernel
theorem dX7_addTo_30 : decode cX7_addTo 30 = .ok (.lload_n 2, 1) := by decide +kernel
theorem dX7_addTo_31 : decode cX7_addTo 31 = .ok (.ladd, 1) := by decide +kernel
theorem dX7_addTo_32 : decode cX7_addTo 32 = .ok (.lastore, 1) := by decide +kernel
theorem dX7_addTo_33 : decode cX7_addTo 33 = .ok (.goto 43, 3) := by decide +kernel
theorem dX7_addTo_36 : decode cX7_addTo 36 = .ok (.iload_n 1, 1) := by decide +kernel
theorem dX7_addTo_37 : decode cX7_addTo 37 = .ok (.ifCond .le 39, 3) := by decide +kernel
theorem dX7_addTo_40 : decode cX7_addTo 40 = .ok (.iload 4, 2) := by decide +kernel
theorem dX7_addTo_42 : decode cX7_addTo 42 = .ok (.ifCond .ne 34, 3) := by decide +kernel
theorem dX7_addTo_45 : decode cX7_addTo 45 = .ok (.aload_n 0, 1) := by decide +kernel
theorem dX7_addTo_46 : decode cX7_addTo 46 = .ok (.getfield 28, 3) := by decide +kernel
theorem dX7_addTo_49 : decode cX7_addTo 49 = .ok (.bipush 7, 2) := by decide +kernel
theorem dX7_addTo_51 : decode cX7_addTo 51 = .ok (.aload_n 0, 1) := by decide +kernel
theorem dX7_addTo_52 : decode cX7_addTo 52 = .ok (.getfield 85, 3) := by decide +kernel
theorem dX7_addTo_55 : decode cX7_addTo 55 = .ok (.imul, 1) := by decide +kernel
theorem dX7_addTo_56 : decode cX7_addTo 56 = .ok (.bipush 6, 2) := by decide +kernel
theorem dX7_addTo_58 : decode cX7_addTo 58 = .ok (.iadd, 1) := by decide +kernel
theorem dX7_addTo_59 : decode cX7_addTo 59 = .ok (.dup2, 1) := by decide +kernel
theorem dX7_addTo_60 : decode cX7_addTo 60 = .ok (.laload, 1) := by decide +kernel
theorem dX7_addTo_61 : decode cX7_addTo 61 = .ok (.lload_n 2, 1) := by decide +kernel
theorem dX7_addTo_62 : decode cX7_addTo 62 = .ok (.aload_n 0, 1) := by decide +kernel
theorem dX7_addTo_63 : decode cX7_addTo 63 = .ok (.aload_n 0, 1) := by decide +kernel
theorem dX7_addTo_64 : decode cX7_addTo 64 = .ok (.iload_n 1, 1) := by decide +kernel
theorem dX7_addTo_65 : decode cX7_addTo 65 = .ok (.invokevirtual 75, 3) := by decide +kernel
theorem dX7_addTo_68 : decode cX7_addTo 68 = .ok (.iconst 3, 1) := by decide +kernel
theorem dX7_addTo_69 : decode cX7_addTo 69 = .ok (.invokevirtual 49, 3) := by decide +kernel
theorem dX7_addTo_72 : decode cX7_addTo 72 = .ok (.i2l, 1) := by decide +kernel
theorem dX7_addTo_73 : decode cX7_addTo 73 = .ok (.lmul, 1) := by decide +kernel
theorem dX7_addTo_74 : decode cX7_addTo 74 = .ok (.lsub, 1) := by decide +kernel
theorem dX7_addTo_75 : decode cX7_addTo 75 = .ok (.lastore, 1) := by decide +kernel
theorem dX7_addTo_76 : decode cX7_addTo 76 = .ok (.return_, 1) := by decide +kernel
theorem dX7_currents_0 : decode cX7_currents 0 = .ok (.iconst 0, 1) := by decide +kernel
theorem dX7_currents_1 : decode cX7_currents 1 = .ok (.istore_n 3, 1) := by decide +kernel
theorem dX7_currents_2 : decode cX7_currents 2 = .ok (.iload_n 3, 1) := by decide +kernel
theorem dX7_currents_3 : decode cX7_currents 3 = .ok (.aload_n 0, 1) := by decide +kernel
theorem dX7_currents_4 : decode cX7_currents 4 = .ok (.getfield 7, 3) := by decide +kernel
theorem dX7_currents_7 : decode cX7_currents 7 = .ok (.bipush 48, 2) := by decide +kernel
theorem dX7_currents_9 : decode cX7_currents 9 = .ok (.iaload, 1) := by decide +kernel
theorem dX7_currents_10 : decode cX7_currents 10 = .ok (.if_icmp .ge 82, 3) := by decide +kernel
theorem dX7_currents_13 : decode cX7_currents 13 = .ok (.aload_n 0, 1) := by decide +kernel
theorem dX7_currents_14 : decode cX7_currents 14 = .ok (.iload_n 3, 1) := by decide +kernel
theorem dX7_currents_15 : decode cX7_currents 15 = .ok (.iconst 0, 1) := by decide +kernel
theorem dX7_currents_16 : decode cX7_currents 16 = .ok (.invokevirtual 60, 3) := by decide +kernel
theorem dX7_currents_19 : decode cX7_currents 19 = .ok (.ifCond .eq 67, 3) := by decide +kernel
theorem dX7_currents_22 : decode cX7_currents 22 = .ok (.aload_n 0, 1) := by decide +kernel
theorem dX7_currents_23 : decode cX7_currents 23 = .ok (.iload_n 3, 1) := by decide +kernel
theorem dX7_currents_24 : decode cX7_currents 24 = .ok (.iload_n 1, 1) := by decide +kernel
theorem dX7_currents_25 : decode cX7_currents 25 = .ok (.invokevirtual 68, 3) := by decide +kernel
theorem dX7_currents_28 : decode cX7_currents 28 = .ok (.ifCond .eq 58, 3) := by decide +kernel
theorem dX7_currents_31 : decode cX7_currents 31 = .ok (.aload_n 0, 1) := by decide +kernel
theorem dX7_currents_32 : decode cX7_currents 32 = .ok (.iload_n 3, 1) := by decide +kernel
theorem dX7_currents_33 : decode cX7_currents 33 = .ok (.iconst 1, 1) := by decide +kernel
theorem dX7_currents_34 : decode cX7_currents 34 = .ok (.invokevirtual 49, 3) := by decide +kernel
theorem dX7_currents_37 : decode cX7_currents 37 = .ok (.iload_n 1, 1) := by decide +kernel
theorem dX7_currents_38 : decode cX7_currents 38 = .ok (.if_icmp .ne 12, 3) := by decide +kernel
theorem dX7_currents_41 : decode cX7_currents 41 = .ok (.aload_n 0, 1) := by decide +kernel
theorem dX7_currents_42 : decode cX7_currents 42 = .ok (.iload_n 3, 1) := by decide +kernel
theorem dX7_currents_43 : decode cX7_currents 43 = .ok (.iconst 2, 1) := by decide +kernel
theorem dX7_currents_44 : decode cX7_currents 44 = .ok (.invokevirtual 49, 3) := by decide +kernel
theorem dX7_currents_47 : decode cX7_currents 47 = .ok (.goto 9, 3) := by decide +kernel
theorem dX7_currents_50 : decode cX7_currents 50 = .ok (.aload_n 0, 1) := by decide +kernel
theorem dX7_currents_51 : decode cX7_currents 51 = .ok (.iload_n 3, 1) := by decide +kernel
theorem dX7_currents_52 : decode cX7_currents 52 = .ok (.iconst 1, 1) := by decide +kernel
theorem dX7_currents_53 : decode cX7_currents 53 = .ok (.invokevirtual 49, 3) := by decide +kernel
theorem dX7_currents_56 : decode cX7_currents 56 = .ok (.istore 4, 2) := by decide +kernel
theorem dX7_currents_58 : decode cX7_currents 58 = .ok (.aload_n 0, 1) := by decide +kernel
theorem dX7_currents_59 : decode cX7_currents 59 = .ok (.iload_n 1, 1) := by decide +kernel
theorem dX7_currents_60 : decode cX7_currents 60 = .ok (.aload_n 0, 1) := by decide +kernel
theorem dX7_currents_61 : decode cX7_currents 61 = .ok (.iload_n 3, 1) := by decide +kernel
theorem dX7_currents_62 : decode cX7_currents 62 = .ok (.iconst 3, 1) := by decide +kernel
theorem dX7_currents_63 : decode cX7_currents 63 = .ok (.invokevirtual 49, 3) := by decide +kernel
theorem dX7_currents_66 : decode cX7_currents 66 = .ok (.i2l, 1) := by decide +kernel
theorem dX7_currents_67 : decode cX7_currents 67 = .ok (.iload_n 2, 1) := by decide +kernel
theorem dX7_currents_68 : decode cX7_currents 68 = .ok (.invokevirtual 88, 3) := by decide +kernel
theorem dX7_currents_71 : decode cX7_currents 71 = .ok (.aload_n 0, 1) := by decide +kernel
theorem dX7_currents_72 : decode cX7_currents 72 = .ok (.iload 4, 2) := by decide +kernel
theorem dX7_currents_74 : decode cX7_currents 74 = .ok (.aload_n 0, 1) := by decide +kernel
theorem dX7_currents_75 : decode cX7_currents 75 = .ok (.iload_n 3, 1) := by decide +kernel
theorem dX7_currents_76 : decode cX7_currents 76 = .ok (.iconst 3, 1) := by decide +kernel
theorem dX7_currents_77 : decode cX7_currents 77 = .ok (.invokevirtual 49, 3) := by decide +kernel
theorem dX7_currents_80 : decode cX7_currents 80 = .ok (.ineg, 1) := by decide +kernel
theorem dX7_currents_81 : decode cX7_currents 81 = .ok (.i2l, 1) := by decide +kernel
theorem dX7_currents_82 : decode cX7_currents 82 = .ok (.iload_n 2, 1) := by decide +kernel
theorem dX7_currents_83 : decode cX7_currents 83 = .ok (.invokevirtual 88, 3) := by decide +kernel
theorem dX7_currents_86 : decode cX7_currents 86 = .ok (.iinc 3 1, 3) := by decide +kernel
theorem dX7_currents_89 : decode cX7_currents 89 = .ok (.goto (-87), 3) := by decide +kernel
theorem dX7_currents_92 : decode cX7_currents 92 = .ok (.aload_n 0, 1) := by decide +kernel
theorem dX7_currents_93 : decode cX7_currents 93 = .ok (.dup, 1) := by decide +kernel
theorem dX7_currents_94 : decode cX7_currents 94 = .ok (.getfield 85, 3) := by decide +kernel
theorem dX7_currents_97 : decode cX7_currents 97 = .ok (.iconst 1, 1) := by decide +kernel
theorem dX7_currents_98 : decode cX7_currents 98 = .ok (.iadd, 1) := by decide +kernel
theorem dX7_currents_99 : decode cX7_currents 99 = .ok (.putfield 85, 3) := by decide +kernel
theorem dX7_currents_102 : decode cX7_currents 102 = .ok (.return_, 1) := by decide +kernel
theorem dX7_amplifierRule_0 : decode cX7_amplifierRule 0 = .ok (.aload_n 0, 1) := by decide +kernel
theorem dX7_amplifierRule_1 : decode cX7_amplifierRule 1 = .ok (.iload_n 1, 1) := by decide +kernel
theorem dX7_amplifierRule_2 : decode cX7_amplifierRule 2 = .ok (.invokevirtual 92, 3) := by decide +kernel
theorem dX7_amplifierRule_5 : decode cX7_amplifierRule 5 = .ok (.istore 4, 2) := by decide +kernel
theorem dX7_amplifierRule_7 : decode cX7_amplifierRule 7 = .ok (.iload_n 2, 1) := by decide +kernel
theorem dX7_amplifierRule_8 : decode cX7_amplifierRule 8 = .ok (.iload_n 1, 1) := by decide +kernel
theorem dX7_amplifierRule_9 : decode cX7_amplifierRule 9 = .ok (.invokestatic 95, 3) := by decide +kernel
theorem dX7_amplifierRule_12 : decode cX7_amplifierRule 12 = .ok (.istore 5, 2) := by decide +kernel
theorem dX7_amplifierRule_14 : decode cX7_amplifierRule 14 = .ok (.iload_n 3, 1) := by decide +kernel
theorem dX7_amplifierRule_15 : decode cX7_amplifierRule 15 = .ok (.iconst (-1), 1) := by decide +kernel
theorem dX7_amplifierRule_16 : decode cX7_amplifierRule 16 = .ok (.if_icmp .eq 7, 3) := by decide +kernel
theorem dX7_amplifierRule_19 : decode cX7_amplifierRule 19 = .ok (.iconst 1, 1) := by decide +kernel
theorem dX7_amplifierRule_20 : decode cX7_amplifierRule 20 = .ok (.goto 4, 3) := by decide +kernel
theorem dX7_amplifierRule_23 : decode cX7_amplifierRule 23 = .ok (.iconst 0, 1) := by decide +kernel
theorem dX7_amplifierRule_24 : decode cX7_amplifierRule 24 = .ok (.istore 6, 2) := by decide +kernel
theorem dX7_amplifierRule_26 : decode cX7_amplifierRule 26 = .ok (.iload 5, 2) := by decide +kernel
theorem dX7_amplifierRule_28 : decode cX7_amplifierRule 28 = .ok (.ifCond .ne 41, 3) := by decide +kernel
theorem dX7_amplifierRule_31 : decode cX7_amplifierRule 31 = .ok (.iload_n 1, 1) := by decide +kernel
theorem dX7_amplifierRule_32 : decode cX7_amplifierRule 32 = .ok (.iload_n 3, 1) := by decide +kernel
theorem dX7_amplifierRule_33 : decode cX7_amplifierRule 33 = .ok (.if_icmp .eq 36, 3) := by decide +kernel
theorem dX7_amplifierRule_36 : decode cX7_amplifierRule 36 = .ok (.aload_n 0, 1) := by decide +kernel
theorem dX7_amplifierRule_37 : decode cX7_amplifierRule 37 = .ok (.aload_n 0, 1) := by decide +kernel
theorem dX7_amplifierRule_38 : decode cX7_amplifierRule 38 = .ok (.iload 4, 2) := by decide +kernel
theorem dX7_amplifierRule_40 : decode cX7_amplifierRule 40 = .ok (.iconst 1, 1) := by decide +kernel
theorem dX7_amplifierRule_41 : decode cX7_amplifierRule 41 = .ok (.invokevirtual 49, 3) := by decide +kernel
theorem dX7_amplifierRule_44 : decode cX7_amplifierRule 44 = .ok (.lconst 1, 1) := by decide +kernel
theorem dX7_amplifierRule_45 : decode cX7_amplifierRule 45 = .ok (.iload 6, 2) := by decide +kernel
theorem dX7_amplifierRule_47 : decode cX7_amplifierRule 47 = .ok (.invokevirtual 88, 3) := by decide +kernel
theorem dX7_amplifierRule_50 : decode cX7_amplifierRule 50 = .ok (.aload_n 0, 1) := by decide +kernel
theorem dX7_amplifierRule_51 : decode cX7_amplifierRule 51 = .ok (.aload_n 0, 1) := by decide +kernel
theorem dX7_amplifierRule_52 : decode cX7_amplifierRule 52 = .ok (.iload 4, 2) := by decide +kernel
theorem dX7_amplifierRule_54 : decode cX7_amplifierRule 54 = .ok (.iconst 2, 1) := by decide +kernel
theorem dX7_amplifierRule_55 : decode cX7_amplifierRule 55 = .ok (.invokevirtual 49, 3) := by decide +kernel
theorem dX7_amplifierRule_58 : decode cX7_amplifierRule 58 = .ok (.ldc2_w 98, 3) := by decide +kernel
theorem dX7_amplifierRule_61 : decode cX7_amplifierRule 61 = .ok (.iload 6, 2) := by decide +kernel
theorem dX7_amplifierRule_63 : decode cX7_amplifierRule 63 = .ok (.invokevirtual 88, 3) := by decide +kernel
theorem dX7_amplifierRule_66 : decode cX7_amplifierRule 66 = .ok (.goto 82, 3) := by decide +kernel
theorem dX7_amplifierRule_69 : decode cX7_amplifierRule 69 = .ok (.iload 5, 2) := by decide +kernel
theorem dX7_amplifierRule_71 : decode cX7_amplifierRule 71 = .ok (.iconst 1, 1) := by decide +kernel
theorem dX7_amplifierRule_72 : decode cX7_amplifierRule 72 = .ok (.if_icmp .ne 13, 3) := by decide +kernel
theorem dX7_amplifierRule_75 : decode cX7_amplifierRule 75 = .ok (.aload_n 0, 1) := by decide +kernel
theorem dX7_amplifierRule_76 : decode cX7_amplifierRule 76 = .ok (.getfield 7, 3) := by decide +kernel
theorem dX7_amplifierRule_79 : decode cX7_amplifierRule 79 = .ok (.bipush 49, 2) := by decide +kernel
theorem dX7_amplifierRule_81 : decode cX7_amplifierRule 81 = .ok (.iaload, 1) := by decide +kernel
theorem dX7_amplifierRule_82 : decode cX7_amplifierRule 82 = .ok (.goto 11, 3) := by decide +kernel
theorem dX7_amplifierRule_85 : decode cX7_amplifierRule 85 = .ok (.aload_n 0, 1) := by decide +kernel
theorem dX7_amplifierRule_86 : decode cX7_amplifierRule 86 = .ok (.getfield 7, 3) := by decide +kernel
theorem dX7_amplifierRule_89 : decode cX7_amplifierRule 89 = .ok (.bipush 49, 2) := by decide +kernel
theorem dX7_amplifierRule_91 : decode cX7_amplifierRule 91 = .ok (.iaload, 1) := by decide +kernel
theorem dX7_amplifierRule_92 : decode cX7_amplifierRule 92 = .ok (.ineg, 1) := by decide +kernel
theorem dX7_amplifierRule_93 : decode cX7_amplifierRule 93 = .ok (.istore 7, 2) := by decide +kernel
theorem dX7_amplifierRule_95 : decode cX7_amplifierRule 95 = .ok (.aload_n 0, 1) := by decide +kernel
theorem dX7_amplifierRule_96 : decode cX7_amplifierRule 96 = .ok (.aload_n 0, 1) := by decide +kernel
theorem dX7_amplifierRule_97 : decode cX7_amplifierRule 97 = .ok (.iload 4, 2) := by decide +kernel
theorem dX7_amplifierRule_99 : decode cX7_amplifierRule 99 = .ok (.iconst 3, 1) := by decide +kernel
theorem dX7_amplifierRule_100 : decode cX7_amplifierRule 100 = .ok (.invokevirtual 49, 3) := by decide +kernel
theorem dX7_amplifierRule_103 : decode cX7_amplifierRule 103 = .ok (.lconst 1, 1) := by decide +kernel
theorem dX7_amplifierRule_104 : decode cX7_amplifierRule 104 = .ok (.iload 6, 2) := by decide +kernel
theorem dX7_amplifierRule_106 : decode cX7_amplifierRule 106 = .ok (.invokevirtual 88, 3) := by decide +kernel
theorem dX7_amplifierRule_109 : decode cX7_amplifierRule 109 = .ok (.aload_n 0, 1) := by decide +kernel
theorem dX7_amplifierRule_110 : decode cX7_amplifierRule 110 = .ok (.getfield 28, 3) := by decide +kernel
theorem dX7_amplifierRule_113 : decode cX7_amplifierRule 113 = .ok (.bipush 7, 2) := by decide +kernel
theorem dX7_amplifierRule_115 : decode cX7_amplifierRule 115 = .ok (.aload_n 0, 1) := by decide +kernel
theorem dX7_amplifierRule_116 : decode cX7_amplifierRule 116 = .ok (.getfield 85, 3) := by decide +kernel
theorem dX7_amplifierRule_119 : decode cX7_amplifierRule 119 = .ok (.imul, 1) := by decide +kernel
theorem dX7_amplifierRule_120 : decode cX7_amplifierRule 120 = .ok (.bipush 6, 2) := by decide +kernel
theorem dX7_amplifierRule_122 : decode cX7_amplifierRule 122 = .ok (.iadd, 1) := by decide +kernel
theorem dX7_amplifierRule_123 : decode cX7_amplifierRule 123 = .ok (.dup2, 1) := by decide +kernel
theorem dX7_amplifierRule_124 : decode cX7_amplifierRule 124 = .ok (.laload, 1) := by decide +kernel
theorem dX7_amplifierRule_125 : decode cX7_amplifierRule 125 = .ok (.iload_n 1, 1) := by decide +kernel
theorem dX7_amplifierRule_126 : decode cX7_amplifierRule 126 = .ok (.iload_n 3, 1) := by decide +kernel
theorem dX7_amplifierRule_127 : decode cX7_amplifierRule 127 = .ok (.if_icmp .ne 7, 3) := by decide +kernel
theorem dX7_amplifierRule_130 : decode cX7_amplifierRule 130 = .ok (.lconst 1, 1) := by decide +kernel
theorem dX7_amplifierRule_131 : decode cX7_amplifierRule 131 = .ok (.goto 15, 3) := by decide +kernel
theorem dX7_amplifierRule_134 : decode cX7_amplifierRule 134 = .ok (.iload 6, 2) := by decide +kernel
theorem dX7_amplifierRule_136 : decode cX7_amplifierRule 136 = .ok (.ifCond .eq 7, 3) := by decide +kernel
theorem dX7_amplifierRule_139 : decode cX7_amplifierRule 139 = .ok (.lconst 0, 1) := by decide +kernel
theorem dX7_amplifierRule_140 : decode cX7_amplifierRule 140 = .ok (.goto 6, 3) := by decide +kernel
theorem dX7_amplifierRule_143 : decode cX7_amplifierRule 143 = .ok (.iload 7, 2) := by decide +kernel
theorem dX7_amplifierRule_145 : decode cX7_amplifierRule 145 = .ok (.i2l, 1) := by decide +kernel
theorem dX7_amplifierRule_146 : decode cX7_amplifierRule 146 = .ok (.ladd, 1) := by decide +kernel
theorem dX7_amplifierRule_147 : decode cX7_amplifierRule 147 = .ok (.lastore, 1) := by decide +kernel
theorem dX7_amplifierRule_148 : decode cX7_amplifierRule 148 = .ok (.aload_n 0, 1) := by decide +kernel
theorem dX7_amplifierRule_149 : decode cX7_amplifierRule 149 = .ok (.dup, 1) := by decide +kernel
theorem dX7_amplifierRule_150 : decode cX7_amplifierRule 150 = .ok (.getfield 85, 3) := by decide +kernel
theorem dX7_amplifierRule_153 : decode cX7_amplifierRule 153 = .ok (.iconst 1, 1) := by decide +kernel
theorem dX7_amplifierRule_154 : decode cX7_amplifierRule 154 = .ok (.iadd, 1) := by decide +kernel
theorem dX7_amplifierRule_155 : decode cX7_amplifierRule 155 = .ok (.putfield 85, 3) := by decide +kernel
theorem dX7_amplifierRule_158 : decode cX7_amplifierRule 158 = .ok (.return_, 1) := by decide +kernel
theorem dX7_layRules_0 : decode cX7_layRules 0 = .ok (.aload_n 0, 1) := by decide +kernel
theorem dX7_layRules_1 : decode cX7_layRules 1 = .ok (.invokevirtual 100, 3) := by decide +kernel
theorem dX7_layRules_4 : decode cX7_layRules 4 = .ok (.iconst 0, 1) := by decide +kernel
theorem dX7_layRules_5 : decode cX7_layRules 5 = .ok (.istore_n 3, 1) := by decide +kernel
theorem dX7_layRules_6 : decode cX7_layRules 6 = .ok (.iload_n 3, 1) := by decide +kernel
theorem dX7_layRules_7 : decode cX7_layRules 7 = .ok (.bipush 42, 2) := by decide +kernel
theorem dX7_layRules_9 : decode cX7_layRules 9 = .ok (.if_icmp .ge 16, 3) := by decide +kernel
theorem dX7_layRules_12 : decode cX7_layRules 12 = .ok (.aload_n 0, 1) := by decide +kernel
theorem dX7_layRules_13 : decode cX7_layRules 13 = .ok (.getfield 28, 3) := by decide +kernel
theorem dX7_layRules_16 : decode cX7_layRules 16 = .ok (.iload_n 3, 1) := by decide +kernel
theorem dX7_layRules_17 : decode cX7_layRules 17 = .ok (.lconst 0, 1) := by decide +kernel
theorem dX7_layRules_18 : decode cX7_layRules 18 = .ok (.lastore, 1) := by decide +kernel
theorem dX7_layRules_19 : decode cX7_layRules 19 = .ok (.iinc 3 1, 3) := by decide +kernel
theorem dX7_layRules_22 : decode cX7_layRules 22 = .ok (.goto (-16), 3) := by decide +kernel
theorem dX7_layRules_25 : decode cX7_layRules 25 = .ok (.aload_n 0, 1) := by decide +kernel
theorem dX7_layRules_26 : decode cX7_layRules 26 = .ok (.iconst 0, 1) := by decide +kernel
theorem dX7_layRules_27 : decode cX7_layRules 27 = .ok (.putfield 85, 3) := by decide +kernel
theorem dX7_layRules_30 : decode cX7_layRules 30 = .ok (.iconst 1, 1) := by decide +kernel
theorem dX7_layRules_31 : decode cX7_layRules 31 = .ok (.istore_n 3, 1) := by decide +kernel
theorem dX7_layRules_32 : decode cX7_layRules 32 = .ok (.iload_n 3, 1) := by decide +kernel
theorem dX7_layRules_33 : decode cX7_layRules 33 = .ok (.bipush 7, 2) := by decide +kernel
theorem dX7_layRules_35 : decode cX7_layRules 35 = .ok (.if_icmp .ge 40, 3) := by decide +kernel
theorem dX7_layRules_38 : decode cX7_layRules 38 = .ok (.aload_n 0, 1) := by decide +kernel
theorem dX7_layRules_39 : decode cX7_layRules 39 = .ok (.iload_n 3, 1) := by decide +kernel
theorem dX7_layRules_40 : decode cX7_layRules 40 = .ok (.invokevirtual 82, 3) := by decide +kernel
theorem dX7_layRules_43 : decode cX7_layRules 43 = .ok (.ifCond .eq 26, 3) := by decide +kernel
theorem dX7_layRules_46 : decode cX7_layRules 46 = .ok (.aload_n 0, 1) := by decide +kernel
theorem dX7_layRules_47 : decode cX7_layRules 47 = .ok (.iload_n 3, 1) := by decide +kernel
theorem dX7_layRules_48 : decode cX7_layRules 48 = .ok (.invokevirtual 103, 3) := by decide +kernel
theorem dX7_layRules_51 : decode cX7_layRules 51 = .ok (.ifCond .ne 18, 3) := by decide +kernel
theorem dX7_layRules_54 : decode cX7_layRules 54 = .ok (.aload_n 0, 1) := by decide +kernel
theorem dX7_layRules_55 : decode cX7_layRules 55 = .ok (.iload_n 3, 1) := by decide +kernel
theorem dX7_layRules_56 : decode cX7_layRules 56 = .ok (.iload_n 2, 1) := by decide +kernel
theorem dX7_layRules_57 : decode cX7_layRules 57 = .ok (.iconst (-1), 1) := by decide +kernel
theorem dX7_layRules_58 : decode cX7_layRules 58 = .ok (.if_icmp .eq 7, 3) := by decide +kernel
theorem dX7_layRules_61 : decode cX7_layRules 61 = .ok (.iconst 1, 1) := by decide +kernel
theorem dX7_layRules_62 : decode cX7_layRules 62 = .ok (.goto 4, 3) := by decide +kernel
theorem dX7_layRules_65 : decode cX7_layRules 65 = .ok (.iconst 0, 1) := by decide +kernel
theorem dX7_layRules_66 : decode cX7_layRules 66 = .ok (.invokevirtual 106, 3) := by decide +kernel
theorem dX7_layRules_69 : decode cX7_layRules 69 = .ok (.iinc 3 1, 3) := by decide +kernel
theorem dX7_layRules_72 : decode cX7_layRules 72 = .ok (.goto (-40), 3) := by decide +kernel
theorem dX7_layRules_75 : decode cX7_layRules 75 = .ok (.iconst 0, 1) := by decide +kernel
theorem dX7_layRules_76 : decode cX7_layRules 76 = .ok (.istore_n 3, 1) := by decide +kernel
theorem dX7_layRules_77 : decode cX7_layRules 77 = .ok (.iload_n 3, 1) := by decide +kernel
theorem dX7_layRules_78 : decode cX7_layRules 78 = .ok (.aload_n 0, 1) := by decide +kernel
theorem dX7_layRules_79 : decode cX7_layRules 79 = .ok (.invokevirtual 64, 3) := by decide +kernel
theorem dX7_layRules_82 : decode cX7_layRules 82 = .ok (.if_icmp .ge 16, 3) := by decide +kernel
theorem dX7_layRules_85 : decode cX7_layRules 85 = .ok (.aload_n 0, 1) := by decide +kernel
theorem dX7_layRules_86 : decode cX7_layRules 86 = .ok (.iload_n 3, 1) := by decide +kernel
theorem dX7_layRules_87 : decode cX7_layRules 87 = .ok (.iload_n 1, 1) := by decide +kernel
theorem dX7_layRules_88 : decode cX7_layRules 88 = .ok (.iload_n 2, 1) := by decide +kernel
theorem dX7_layRules_89 : decode cX7_layRules 89 = .ok (.invokevirtual 110, 3) := by decide +kernel
theorem dX7_layRules_92 : decode cX7_layRules 92 = .ok (.iinc 3 1, 3) := by decide +kernel
theorem dX7_layRules_95 : decode cX7_layRules 95 = .ok (.goto (-18), 3) := by decide +kernel
theorem dX7_layRules_98 : decode cX7_layRules 98 = .ok (.return_, 1) := by decide +kernel
theorem dX7_determinant_0 : decode cX7_determinant 0 = .ok (.aload_n 0, 1) := by decide +kernel
theorem dX7_determinant_1 : decode cX7_determinant 1 = .ok (.getfield 79, 3) := by decide +kernel
theorem dX7_determinant_4 : decode cX7_determinant 4 = .ok (.istore_n 2, 1) := by decide +kernel
theorem dX7_determinant_5 : decode cX7_determinant 5 = .ok (.iconst 0, 1) := by decide +kernel
theorem dX7_determinant_6 : decode cX7_determinant 6 = .ok (.istore_n 3, 1) := by decide +kernel
theorem dX7_determinant_7 : decode cX7_determinant 7 = .ok (.iload_n 3, 1) := by decide +kernel
theorem dX7_determinant_8 : decode cX7_determinant 8 = .ok (.iload_n 2, 1) := by decide +kernel
theorem dX7_determinant_9 : decode cX7_determinant 9 = .ok (.iload_n 2, 1) := by decide +kernel
theorem dX7_determinant_10 : decode cX7_determinant 10 = .ok (.imul, 1) := by decide +kernel
theorem dX7_determinant_11 : decode cX7_determinant 11 = .ok (.if_icmp .ge 42, 3) := by decide +kernel
theorem dX7_determinant_14 : decode cX7_determinant 14 = .ok (.aload_n 0, 1) := by decide +kernel
theorem dX7_determinant_15 : decode cX7_determinant 15 = .ok (.getfield 32, 3) := by decide +kernel
theorem dX7_determinant_18 : decode cX7_determinant 18 = .ok (.iload_n 3, 1) := by decide +kernel
theorem dX7_determinant_19 : decode cX7_determinant 19 = .ok (.aload_n 0, 1) := by decide +kernel
theorem dX7_determinant_20 : decode cX7_determinant 20 = .ok (.getfield 28, 3) := by decide +kernel
theorem dX7_determinant_23 : decode cX7_determinant 23 = .ok (.bipush 7, 2) := by decide +kernel
theorem dX7_determinant_25 : decode cX7_determinant 25 = .ok (.iload_n 3, 1) := by decide +kernel
theorem dX7_determinant_26 : decode cX7_determinant 26 = .ok (.iload_n 2, 1) := by decide +kernel
theorem dX7_determinant_27 : decode cX7_determinant 27 = .ok (.idiv, 1) := by decide +kernel
theorem dX7_determinant_28 : decode cX7_determinant 28 = .ok (.imul, 1) := by decide +kernel
theorem dX7_determinant_29 : decode cX7_determinant 29 = .ok (.iload_n 3, 1) := by decide +kernel
theorem dX7_determinant_30 : decode cX7_determinant 30 = .ok (.iload_n 2, 1) := by decide +kernel
theorem dX7_determinant_31 : decode cX7_determinant 31 = .ok (.irem, 1) := by decide +kernel
theorem dX7_determinant_32 : decode cX7_determinant 32 = .ok (.iload_n 1, 1) := by decide +kernel
theorem dX7_determinant_33 : decode cX7_determinant 33 = .ok (.if_icmp .ne 8, 3) := by decide +kernel
theorem dX7_determinant_36 : decode cX7_determinant 36 = .ok (.bipush 6, 2) := by decide +kernel
theorem dX7_determinant_38 : decode cX7_determinant 38 = .ok (.goto 6, 3) := by decide +kernel
theorem dX7_determinant_41 : decode cX7_determinant 41 = .ok (.iload_n 3, 1) := by decide +kernel
theorem dX7_determinant_42 : decode cX7_determinant 42 = .ok (.iload_n 2, 1) := by decide +kernel
theorem dX7_determinant_43 : decode cX7_determinant 43 = .ok (.irem, 1) := by decide +kernel
theorem dX7_determinant_44 : decode cX7_determinant 44 = .ok (.iadd, 1) := by decide +kernel
theorem dX7_determinant_45 : decode cX7_determinant 45 = .ok (.laload, 1) := by decide +kernel
theorem dX7_determinant_46 : decode cX7_determinant 46 = .ok (.lastore, 1) := by decide +kernel
theorem dX7_determinant_47 : decode cX7_determinant 47 = .ok (.iinc 3 1, 3) := by decide +kernel
theorem dX7_determinant_50 : decode cX7_determinant 50 = .ok (.goto (-43), 3) := by decide +kernel
theorem dX7_determinant_53 : decode cX7_determinant 53 = .ok (.lconst 1, 1) := by decide +kernel
theorem dX7_determinant_54 : decode cX7_determinant 54 = .ok (.lstore_n 3, 1) := by decide +kernel
theorem dX7_determinant_55 : decode cX7_determinant 55 = .ok (.iconst 1, 1) := by decide +kernel
theorem dX7_determinant_56 : decode cX7_determinant 56 = .ok (.istore 5, 2) := by decide +kernel
theorem dX7_determinant_58 : decode cX7_determinant 58 = .ok (.iconst 0, 1) := by decide +kernel
theorem dX7_determinant_59 : decode cX7_determinant 59 = .ok (.istore 6, 2) := by decide +kernel
theorem dX7_determinant_61 : decode cX7_determinant 61 = .ok (.iload 6, 2) := by decide +kernel
theorem dX7_determinant_63 : decode cX7_determinant 63 = .ok (.iload_n 2, 1) := by decide +kernel
theorem dX7_determinant_64 : decode cX7_determinant 64 = .ok (.if_icmp .ge 248, 3) := by decide +kernel
theorem dX7_determinant_67 : decode cX7_determinant 67 = .ok (.iload 6, 2) := by decide +kernel
theorem dX7_determinant_69 : decode cX7_determinant 69 = .ok (.istore 7, 2) := by decide +kernel
theorem dX7_determinant_71 : decode cX7_determinant 71 = .ok (.iload 7, 2) := by decide +kernel
theorem dX7_determinant_73 : decode cX7_determinant 73 = .ok (.iload_n 2, 1) := by decide +kernel
theorem dX7_determinant_74 : decode cX7_determinant 74 = .ok (.if_icmp .ge 26, 3) := by decide +kernel
theorem dX7_determinant_77 : decode cX7_determinant 77 = .ok (.aload_n 0, 1) := by decide +kernel
theorem dX7_determinant_78 : decode cX7_determinant 78 = .ok (.getfield 32, 3) := by decide +kernel
theorem dX7_determinant_81 : decode cX7_determinant 81 = .ok (.iload_n 2, 1) := by decide +kernel
theorem dX7_determinant_82 : decode cX7_determinant 82 = .ok (.iload 7, 2) := by decide +kernel
theorem dX7_determinant_84 : decode cX7_determinant 84 = .ok (.imul, 1) := by decide +kernel
theorem dX7_determinant_85 : decode cX7_determinant 85 = .ok (.iload 6, 2) := by decide +kernel
theorem dX7_determinant_87 : decode cX7_determinant 87 = .ok (.iadd, 1) := by decide +kernel
theorem dX7_determinant_88 : decode cX7_determinant 88 = .ok (.laload, 1) := by decide +kernel
theorem dX7_determinant_89 : decode cX7_determinant 89 = .ok (.lconst 0, 1) := by decide +kernel
theorem dX7_determinant_90 : decode cX7_determinant 90 = .ok (.lcmp, 1) := by decide +kernel
theorem dX7_determinant_91 : decode cX7_determinant 91 = .ok (.ifCond .ne 9, 3) := by decide +kernel
theorem dX7_determinant_94 : decode cX7_determinant 94 = .ok (.iinc 7 1, 3) := by decide +kernel
theorem dX7_determinant_97 : decode cX7_determinant 97 = .ok (.goto (-26), 3) := by decide +kernel
theorem dX7_determinant_100 : decode cX7_determinant 100 = .ok (.iload 7, 2) := by decide +kernel
theorem dX7_determinant_102 : decode cX7_determinant 102 = .ok (.iload_n 2, 1) := by decide +kernel
theorem dX7_determinant_103 : decode cX7_determinant 103 = .ok (.if_icmp .ne 5, 3) := by decide +kernel
theorem dX7_determinant_106 : decode cX7_determinant 106 = .ok (.lconst 0, 1) := by decide +kernel
theorem dX7_determinant_107 : decode cX7_determinant 107 = .ok (.lreturn, 1) := by decide +kernel
theorem dX7_determinant_108 : decode cX7_determinant 108 = .ok (.iload 7, 2) := by decide +kernel
theorem dX7_determinant_110 : decode cX7_determinant 110 = .ok (.iload 6, 2) := by decide +kernel
theorem dX7_determinant_112 : decode cX7_determinant 112 = .ok (.if_icmp .ne 8, 3) := by decide +kernel
theorem dX7_determinant_115 : decode cX7_determinant 115 = .ok (.iload 5, 2) := by decide +kernel
theorem dX7_determinant_117 : decode cX7_determinant 117 = .ok (.goto 6, 3) := by decide +kernel
theorem dX7_determinant_120 : decode cX7_determinant 120 = .ok (.iload 5, 2) := by decide +kernel
theorem dX7_determinant_122 : decode cX7_determinant 122 = .ok (.ineg, 1) := by decide +kernel
theorem dX7_determinant_123 : decode cX7_determinant 123 = .ok (.istore 5, 2) := by decide +kernel
theorem dX7_determinant_125 : decode cX7_determinant 125 = .ok (.iconst 0, 1) := by decide +kernel
theorem dX7_determinant_126 : decode cX7_determinant 126 = .ok (.istore 8, 2) := by decide +kernel
theorem dX7_determinant_128 : decode cX7_determinant 128 = .ok (.iload 8, 2) := by decide +kernel
theorem dX7_determinant_130 : decode cX7_determinant 130 = .ok (.iload_n 2, 1) := by decide +kernel
theorem dX7_determinant_131 : decode cX7_determinant 131 = .ok (.if_icmp .ge 61, 3) := by decide +kernel
theorem dX7_determinant_134 : decode cX7_determinant 134 = .ok (.aload_n 0, 1) := by decide +kernel
theorem dX7_determinant_135 : decode cX7_determinant 135 = .ok (.getfield 32, 3) := by decide +kernel
theorem dX7_determinant_138 : decode cX7_determinant 138 = .ok (.iload_n 2, 1) := by decide +kernel
theorem dX7_determinant_139 : decode cX7_determinant 139 = .ok (.iload 7, 2) := by decide +kernel
theorem dX7_determinant_141 : decode cX7_determinant 141 = .ok (.imul, 1) := by decide +kernel
theorem dX7_determinant_142 : decode cX7_determinant 142 = .ok (.iload 8, 2) := by decide +kernel
theorem dX7_determinant_144 : decode cX7_determinant 144 = .ok (.iadd, 1) := by decide +kernel
theorem dX7_determinant_145 : decode cX7_determinant 145 = .ok (.laload, 1) := by decide +kernel
theorem dX7_determinant_146 : decode cX7_determinant 146 = .ok (.lstore 9, 2) := by decide +kernel
theorem dX7_determinant_148 : decode cX7_determinant 148 = .ok (.aload_n 0, 1) := by decide +kernel
theorem dX7_determinant_149 : decode cX7_determinant 149 = .ok (.getfield 32, 3) := by decide +kernel
theorem dX7_determinant_152 : decode cX7_determinant 152 = .ok (.iload_n 2, 1) := by decide +kernel
theorem dX7_determinant_153 : decode cX7_determinant 153 = .ok (.iload 7, 2) := by decide +kernel
theorem dX7_determinant_155 : decode cX7_determinant 155 = .ok (.imul, 1) := by decide +kernel
theorem dX7_determinant_156 : decode cX7_determinant 156 = .ok (.iload 8, 2) := by decide +kernel
theorem dX7_determinant_158 : decode cX7_determinant 158 = .ok (.iadd, 1) := by decide +kernel
theorem dX7_determinant_159 : decode cX7_determinant 159 = .ok (.aload_n 0, 1) := by decide +kernel
theorem dX7_determinant_160 : decode cX7_determinant 160 = .ok (.getfield 32, 3) := by decide +kernel
theorem dX7_determinant_163 : decode cX7_determinant 163 = .ok (.iload_n 2, 1) := by decide +kernel
theorem dX7_determinant_164 : decode cX7_determinant 164 = .ok (.iload 6, 2) := by decide +kernel
theorem dX7_determinant_166 : decode cX7_determinant 166 = .ok (.imul, 1) := by decide +kernel
theorem dX7_determinant_167 : decode cX7_determinant 167 = .ok (.iload 8, 2) := by decide +kernel
theorem dX7_determinant_169 : decode cX7_determinant 169 = .ok (.iadd, 1) := by decide +kernel
theorem dX7_determinant_170 : decode cX7_determinant 170 = .ok (.laload, 1) := by decide +kernel
theorem dX7_determinant_171 : decode cX7_determinant 171 = .ok (.lastore, 1) := by decide +kernel
theorem dX7_determinant_172 : decode cX7_determinant 172 = .ok (.aload_n 0, 1) := by decide +kernel
theorem dX7_determinant_173 : decode cX7_determinant 173 = .ok (.getfield 32, 3) := by decide +kernel
theorem dX7_determinant_176 : decode cX7_determinant 176 = .ok (.iload_n 2, 1) := by decide +kernel
theorem dX7_determinant_177 : decode cX7_determinant 177 = .ok (.iload 6, 2) := by decide +kernel
theorem dX7_determinant_179 : decode cX7_determinant 179 = .ok (.imul, 1) := by decide +kernel
theorem dX7_determinant_180 : decode cX7_determinant 180 = .ok (.iload 8, 2) := by decide +kernel
theorem dX7_determinant_182 : decode cX7_determinant 182 = .ok (.iadd, 1) := by decide +kernel
theorem dX7_determinant_183 : decode cX7_determinant 183 = .ok (.lload 9, 2) := by decide +kernel
theorem dX7_determinant_185 : decode cX7_determinant 185 = .ok (.lastore, 1) := by decide +kernel
theorem dX7_determinant_186 : decode cX7_determinant 186 = .ok (.iinc 8 1, 3) := by decide +kernel
theorem dX7_determinant_189 : decode cX7_determinant 189 = .ok (.goto (-61), 3) := by decide +kernel
theorem dX7_determinant_192 : decode cX7_determinant 192 = .ok (.iload 6, 2) := by decide +kernel
theorem dX7_determinant_194 : decode cX7_determinant 194 = .ok (.iconst 1, 1) := by decide +kernel
theorem dX7_determinant_195 : decode cX7_determinant 195 = .ok (.iadd, 1) := by decide +kernel
theorem dX7_determinant_196 : decode cX7_determinant 196 = .ok (.istore 8, 2) := by decide +kernel
theorem dX7_determinant_198 : decode cX7_determinant 198 = .ok (.iload 8, 2) := by decide +kernel
theorem dX7_determinant_200 : decode cX7_determinant 200 = .ok (.iload_n 2, 1) := by decide +kernel
theorem dX7_determinant_201 : decode cX7_determinant 201 = .ok (.if_icmp .ge 92, 3) := by decide +kernel
theorem dX7_determinant_204 : decode cX7_determinant 204 = .ok (.iload 6, 2) := by decide +kernel
theorem dX7_determinant_206 : decode cX7_determinant 206 = .ok (.iconst 1, 1) := by decide +kernel
theorem dX7_determinant_207 : decode cX7_determinant 207 = .ok (.iadd, 1) := by decide +kernel
theorem dX7_determinant_208 : decode cX7_determinant 208 = .ok (.istore 9, 2) := by decide +kernel
theorem dX7_determinant_210 : decode cX7_determinant 210 = .ok (.iload 9, 2) := by decide +kernel
theorem dX7_determinant_212 : decode cX7_determinant 212 = .ok (.iload_n 2, 1) := by decide +kernel
theorem dX7_determinant_213 : decode cX7_determinant 213 = .ok (.if_icmp .ge 74, 3) := by decide +kernel
theorem dX7_determinant_216 : decode cX7_determinant 216 = .ok (.aload_n 0, 1) := by decide +kernel
theorem dX7_determinant_217 : decode cX7_determinant 217 = .ok (.getfield 32, 3) := by decide +kernel
theorem dX7_determinant_220 : decode cX7_determinant 220 = .ok (.iload_n 2, 1) := by decide +kernel
theorem dX7_determinant_221 : decode cX7_determinant 221 = .ok (.iload 8, 2) := by decide +kernel
theorem dX7_determinant_223 : decode cX7_determinant 223 = .ok (.imul, 1) := by decide +kernel
theorem dX7_determinant_224 : decode cX7_determinant 224 = .ok (.iload 9, 2) := by decide +kernel
theorem dX7_determinant_226 : decode cX7_determinant 226 = .ok (.iadd, 1) := by decide +kernel
theorem dX7_determinant_227 : decode cX7_determinant 227 = .ok (.aload_n 0, 1) := by decide +kernel
theorem dX7_determinant_228 : decode cX7_determinant 228 = .ok (.getfield 32, 3) := by decide +kernel
theorem dX7_determinant_231 : decode cX7_determinant 231 = .ok (.iload_n 2, 1) := by decide +kernel
theorem dX7_determinant_232 : decode cX7_determinant 232 = .ok (.iload 8, 2) := by decide +kernel
theorem dX7_determinant_234 : decode cX7_determinant 234 = .ok (.imul, 1) := by decide +kernel
theorem dX7_determinant_235 : decode cX7_determinant 235 = .ok (.iload 9, 2) := by decide +kernel
theorem dX7_determinant_237 : decode cX7_determinant 237 = .ok (.iadd, 1) := by decide +kernel
theorem dX7_determinant_238 : decode cX7_determinant 238 = .ok (.laload, 1) := by decide +kernel
theorem dX7_determinant_239 : decode cX7_determinant 239 = .ok (.aload_n 0, 1) := by decide +kernel
theorem dX7_determinant_240 : decode cX7_determinant 240 = .ok (.getfield 32, 3) := by decide +kernel
theorem dX7_determinant_243 : decode cX7_determinant 243 = .ok (.iload_n 2, 1) := by decide +kernel
theorem dX7_determinant_244 : decode cX7_determinant 244 = .ok (.iload 6, 2) := by decide +kernel
theorem dX7_determinant_246 : decode cX7_determinant 246 = .ok (.imul, 1) := by decide +kernel
theorem dX7_determinant_247 : decode cX7_determinant 247 = .ok (.iload 6, 2) := by decide +kernel
theorem dX7_determinant_249 : decode cX7_determinant 249 = .ok (.iadd, 1) := by decide +kernel
theorem dX7_determinant_250 : decode cX7_determinant 250 = .ok (.laload, 1) := by decide +kernel
theorem dX7_determinant_251 : decode cX7_determinant 251 = .ok (.lmul, 1) := by decide +kernel
theorem dX7_determinant_252 : decode cX7_determinant 252 = .ok (.aload_n 0, 1) := by decide +kernel
theorem dX7_determinant_253 : decode cX7_determinant 253 = .ok (.getfield 32, 3) := by decide +kernel
theorem dX7_determinant_256 : decode cX7_determinant 256 = .ok (.iload_n 2, 1) := by decide +kernel
theorem dX7_determinant_257 : decode cX7_determinant 257 = .ok (.iload 8, 2) := by decide +kernel
theorem dX7_determinant_259 : decode cX7_determinant 259 = .ok (.imul, 1) := by decide +kernel
theorem dX7_determinant_260 : decode cX7_determinant 260 = .ok (.iload 6, 2) := by decide +kernel
theorem dX7_determinant_262 : decode cX7_determinant 262 = .ok (.iadd, 1) := by decide +kernel
theorem dX7_determinant_263 : decode cX7_determinant 263 = .ok (.laload, 1) := by decide +kernel
theorem dX7_determinant_264 : decode cX7_determinant 264 = .ok (.aload_n 0, 1) := by decide +kernel
theorem dX7_determinant_265 : decode cX7_determinant 265 = .ok (.getfield 32, 3) := by decide +kernel
theorem dX7_determinant_268 : decode cX7_determinant 268 = .ok (.iload_n 2, 1) := by decide +kernel
theorem dX7_determinant_269 : decode cX7_determinant 269 = .ok (.iload 6, 2) := by decide +kernel
theorem dX7_determinant_271 : decode cX7_determinant 271 = .ok (.imul, 1) := by decide +kernel
theorem dX7_determinant_272 : decode cX7_determinant 272 = .ok (.iload 9, 2) := by decide +kernel
theorem dX7_determinant_274 : decode cX7_determinant 274 = .ok (.iadd, 1) := by decide +kernel
theorem dX7_determinant_275 : decode cX7_determinant 275 = .ok (.laload, 1) := by decide +kernel
theorem dX7_determinant_276 : decode cX7_determinant 276 = .ok (.lmul, 1) := by decide +kernel
theorem dX7_determinant_277 : decode cX7_determinant 277 = .ok (.lsub, 1) := by decide +kernel
theorem dX7_determinant_278 : decode cX7_determinant 278 = .ok (.lload_n 3, 1) := by decide +kernel
theorem dX7_determinant_279 : decode cX7_determinant 279 = .ok (.ldiv, 1) := by decide +kernel
theorem dX7_determinant_280 : decode cX7_determinant 280 = .ok (.lastore, 1) := by decide +kernel
theorem dX7_determinant_281 : decode cX7_determinant 281 = .ok (.iinc 9 1, 3) := by decide +kernel
theorem dX7_determinant_284 : decode cX7_determinant 284 = .ok (.goto (-74), 3) := by decide +kernel
theorem dX7_determinant_287 : decode cX7_determinant 287 = .ok (.iinc 8 1, 3) := by decide +kernel
theorem dX7_determinant_290 : decode cX7_determinant 290 = .ok (.goto (-92), 3) := by decide +kernel
theorem dX7_determinant_293 : decode cX7_determinant 293 = .ok (.aload_n 0, 1) := by decide +kernel
theorem dX7_determinant_294 : decode cX7_determinant 294 = .ok (.getfield 32, 3) := by decide +kernel
theorem dX7_determinant_297 : decode cX7_determinant 297 = .ok (.iload_n 2, 1) := by decide +kernel
theorem dX7_determinant_298 : decode cX7_determinant 298 = .ok (.iload 6, 2) := by decide +kernel
theorem dX7_determinant_300 : decode cX7_determinant 300 = .ok (.imul, 1) := by decide +kernel
theorem dX7_determinant_301 : decode cX7_determinant 301 = .ok (.iload 6, 2) := by decide +kernel
theorem dX7_determinant_303 : decode cX7_determinant 303 = .ok (.iadd, 1) := by decide +kernel
theorem dX7_determinant_304 : decode cX7_determinant 304 = .ok (.laload, 1) := by decide +kernel
theorem dX7_determinant_305 : decode cX7_determinant 305 = .ok (.lstore_n 3, 1) := by decide +kernel
theorem dX7_determinant_306 : decode cX7_determinant 306 = .ok (.iinc 6 1, 3) := by decide +kernel
theorem dX7_determinant_309 : decode cX7_determinant 309 = .ok (.goto (-248), 3) := by decide +kernel
theorem dX7_determinant_312 : decode cX7_determinant 312 = .ok (.iload 5, 2) := by decide +kernel
theorem dX7_determinant_314 : decode cX7_determinant 314 = .ok (.i2l, 1) := by decide +kernel
theorem dX7_determinant_315 : decode cX7_determinant 315 = .ok (.lload_n 3, 1) := by decide +kernel
theorem dX7_determinant_316 : decode cX7_determinant 316 = .ok (.lmul, 1) := by decide +kernel
theorem dX7_determinant_317 : decode cX7_determinant 317 = .ok (.lreturn, 1) := by decide +kernel
theorem dX7_solve_0 : decode cX7_solve 0 = .ok (.aload_n 0, 1) := by decide +kernel
theorem dX7_solve_1 : decode cX7_solve 1 = .ok (.iload_n 1, 1) := by decide +kernel
theorem dX7_solve_2 : decode cX7_solve 2 = .ok (.iload_n 2, 1) := by decide +kernel
theorem dX7_solve_3 : decode cX7_solve 3 = .ok (.invokevirtual 114, 3) := by decide +kernel
theorem dX7_solve_6 : decode cX7_solve 6 = .ok (.aload_n 0, 1) := by decide +kernel
theorem dX7_solve_7 : decode cX7_solve 7 = .ok (.aload_n 0, 1) := by decide +kernel
theorem dX7_solve_8 : decode cX7_solve 8 = .ok (.iconst (-1), 1) := by decide +kernel
theorem dX7_solve_9 : decode cX7_solve 9 = .ok (.invokevirtual 118, 3) := by decide +kernel
theorem dX7_solve_12 : decode cX7_solve 12 = .ok (.putfield 122, 3) := by decide +kernel
theorem dX7_solve_15 : decode cX7_solve 15 = .ok (.aload_n 0, 1) := by decide +kernel
theorem dX7_solve_16 : decode cX7_solve 16 = .ok (.getfield 122, 3) := by decide +kernel
theorem dX7_solve_19 : decode cX7_solve 19 = .ok (.lconst 0, 1) := by decide +kernel
theorem dX7_solve_20 : decode cX7_solve 20 = .ok (.lcmp, 1) := by decide +kernel
theorem dX7_solve_21 : decode cX7_solve 21 = .ok (.ifCond .ne 5, 3) := by decide +kernel
theorem dX7_solve_24 : decode cX7_solve 24 = .ok (.iconst 0, 1) := by decide +kernel
theorem dX7_solve_25 : decode cX7_solve 25 = .ok (.ireturn, 1) := by decide +kernel
theorem dX7_solve_26 : decode cX7_solve 26 = .ok (.aload_n 0, 1) := by decide +kernel
theorem dX7_solve_27 : decode cX7_solve 27 = .ok (.getfield 122, 3) := by decide +kernel
theorem dX7_solve_30 : decode cX7_solve 30 = .ok (.lconst 0, 1) := by decide +kernel
theorem dX7_solve_31 : decode cX7_solve 31 = .ok (.lcmp, 1) := by decide +kernel
theorem dX7_solve_32 : decode cX7_solve 32 = .ok (.ifCond .le 7, 3) := by decide +kernel
theorem dX7_solve_35 : decode cX7_solve 35 = .ok (.lconst 1, 1) := by decide +kernel
theorem dX7_solve_36 : decode cX7_solve 36 = .ok (.goto 6, 3) := by decide +kernel
theorem dX7_solve_39 : decode cX7_solve 39 = .ok (.ldc2_w 98, 3) := by decide +kernel
theorem dX7_solve_42 : decode cX7_solve 42 = .ok (.lstore_n 3, 1) := by decide +kernel
theorem dX7_solve_43 : decode cX7_solve 43 = .ok (.aload_n 0, 1) := by decide +kernel
theorem dX7_solve_44 : decode cX7_solve 44 = .ok (.dup, 1) := by decide +kernel
theorem dX7_solve_45 : decode cX7_solve 45 = .ok (.getfield 122, 3) := by decide +kernel
theorem dX7_solve_48 : decode cX7_solve 48 = .ok (.lload_n 3, 1) := by decide +kernel
theorem dX7_solve_49 : decode cX7_solve 49 = .ok (.lmul, 1) := by decide +kernel
theorem dX7_solve_50 : decode cX7_solve 50 = .ok (.putfield 122, 3) := by decide +kernel
theorem dX7_solve_53 : decode cX7_solve 53 = .ok (.iconst 0, 1) := by decide +kernel
theorem dX7_solve_54 : decode cX7_solve 54 = .ok (.istore 5, 2) := by decide +kernel
theorem dX7_solve_56 : decode cX7_solve 56 = .ok (.iload 5, 2) := by decide +kernel
theorem dX7_solve_58 : decode cX7_solve 58 = .ok (.bipush 7, 2) := by decide +kernel
theorem dX7_solve_60 : decode cX7_solve 60 = .ok (.if_icmp .ge 83, 3) := by decide +kernel
theorem dX7_solve_63 : decode cX7_solve 63 = .ok (.aload_n 0, 1) := by decide +kernel
theorem dX7_solve_64 : decode cX7_solve 64 = .ok (.iload 5, 2) := by decide +kernel
theorem dX7_solve_66 : decode cX7_solve 66 = .ok (.invokevirtual 75, 3) := by decide +kernel
theorem dX7_solve_69 : decode cX7_solve 69 = .ok (.istore 6, 2) := by decide +kernel
theorem dX7_solve_71 : decode cX7_solve 71 = .ok (.iload 6, 2) := by decide +kernel
theorem dX7_solve_73 : decode cX7_solve 73 = .ok (.iconst (-1), 1) := by decide +kernel
theorem dX7_solve_74 : decode cX7_solve 74 = .ok (.if_icmp .eq 8, 3) := by decide +kernel
theorem dX7_solve_77 : decode cX7_solve 77 = .ok (.iload_n 2, 1) := by decide +kernel
theorem dX7_solve_78 : decode cX7_solve 78 = .ok (.iconst (-1), 1) := by decide +kernel
theorem dX7_solve_79 : decode cX7_solve 79 = .ok (.if_icmp .eq 7, 3) := by decide +kernel
theorem dX7_solve_82 : decode cX7_solve 82 = .ok (.lconst 0, 1) := by decide +kernel
theorem dX7_solve_83 : decode cX7_solve 83 = .ok (.goto 16, 3) := by decide +kernel
theorem dX7_solve_86 : decode cX7_solve 86 = .ok (.aload_n 0, 1) := by decide +kernel
theorem dX7_solve_87 : decode cX7_solve 87 = .ok (.iload 6, 2) := by decide +kernel
theorem dX7_solve_89 : decode cX7_solve 89 = .ok (.iconst 3, 1) := by decide +kernel
theorem dX7_solve_90 : decode cX7_solve 90 = .ok (.invokevirtual 49, 3) := by decide +kernel
theorem dX7_solve_93 : decode cX7_solve 93 = .ok (.i2l, 1) := by decide +kernel
theorem dX7_solve_94 : decode cX7_solve 94 = .ok (.aload_n 0, 1) := by decide +kernel
theorem dX7_solve_95 : decode cX7_solve 95 = .ok (.getfield 122, 3) := by decide +kernel
theorem dX7_solve_98 : decode cX7_solve 98 = .ok (.lmul, 1) := by decide +kernel
theorem dX7_solve_99 : decode cX7_solve 99 = .ok (.lstore 7, 2) := by decide +kernel
theorem dX7_solve_101 : decode cX7_solve 101 = .ok (.aload_n 0, 1) := by decide +kernel
theorem dX7_solve_102 : decode cX7_solve 102 = .ok (.getfield 35, 3) := by decide +kernel
theorem dX7_solve_105 : decode cX7_solve 105 = .ok (.iload 5, 2) := by decide +kernel
theorem dX7_solve_107 : decode cX7_solve 107 = .ok (.aload_n 0, 1) := by decide +kernel
theorem dX7_solve_108 : decode cX7_solve 108 = .ok (.getfield 25, 3) := by decide +kernel
theorem dX7_solve_111 : decode cX7_solve 111 = .ok (.iload 5, 2) := by decide +kernel
theorem dX7_solve_113 : decode cX7_solve 113 = .ok (.iaload, 1) := by decide +kernel
theorem dX7_solve_114 : decode cX7_solve 114 = .ok (.iconst (-1), 1) := by decide +kernel
theorem dX7_solve_115 : decode cX7_solve 115 = .ok (.if_icmp .ne 8, 3) := by decide +kernel
theorem dX7_solve_118 : decode cX7_solve 118 = .ok (.lload 7, 2) := by decide +kernel
theorem dX7_solve_120 : decode cX7_solve 120 = .ok (.goto 16, 3) := by decide +kernel
theorem dX7_solve_123 : decode cX7_solve 123 = .ok (.lload_n 3, 1) := by decide +kernel
theorem dX7_solve_124 : decode cX7_solve 124 = .ok (.aload_n 0, 1) := by decide +kernel
theorem dX7_solve_125 : decode cX7_solve 125 = .ok (.aload_n 0, 1) := by decide +kernel
theorem dX7_solve_126 : decode cX7_solve 126 = .ok (.getfield 25, 3) := by decide +kernel
theorem dX7_solve_129 : decode cX7_solve 129 = .ok (.iload 5, 2) := by decide +kernel
theorem dX7_solve_131 : decode cX7_solve 131 = .ok (.iaload, 1) := by decide +kernel
theorem dX7_solve_132 : decode cX7_solve 132 = .ok (.invokevirtual 118, 3) := by decide +kernel
theorem dX7_solve_135 : decode cX7_solve 135 = .ok (.lmul, 1) := by decide +kernel
theorem dX7_solve_136 : decode cX7_solve 136 = .ok (.lastore, 1) := by decide +kernel
theorem dX7_solve_137 : decode cX7_solve 137 = .ok (.iinc 5 1, 3) := by decide +kernel
theorem dX7_solve_140 : decode cX7_solve 140 = .ok (.goto (-84), 3) := by decide +kernel
theorem dX7_solve_143 : decode cX7_solve 143 = .ok (.iconst 1, 1) := by decide +kernel
theorem dX7_solve_144 : decode cX7_solve 144 = .ok (.ireturn, 1) := by decide +kernel
theorem dX7_input_0 : decode cX7_input 0 = .ok (.aload_n 0, 1) := by decide +kernel
theorem dX7_input_1 : decode cX7_input 1 = .ok (.iload_n 1, 1) := by decide +kernel
theorem dX7_input_2 : decode cX7_input 2 = .ok (.invokevirtual 92, 3) := by decide +kernel
theorem dX7_input_5 : decode cX7_input 5 = .ok (.istore_n 2, 1) := by decide +kernel
theorem dX7_input_6 : decode cX7_input 6 = .ok (.aload_n 0, 1) := by decide +kernel
theorem dX7_input_7 : decode cX7_input 7 = .ok (.getfield 35, 3) := by decide +kernel
theorem dX7_input_10 : decode cX7_input 10 = .ok (.aload_n 0, 1) := by decide +kernel
theorem dX7_input_11 : decode cX7_input 11 = .ok (.iload_n 2, 1) := by decide +kernel
theorem dX7_input_12 : decode cX7_input 12 = .ok (.iconst 1, 1) := by decide +kernel
theorem dX7_input_13 : decode cX7_input 13 = .ok (.invokevirtual 49, 3) := by decide +kernel
theorem dX7_input_16 : decode cX7_input 16 = .ok (.laload, 1) := by decide +kernel
theorem dX7_input_17 : decode cX7_input 17 = .ok (.aload_n 0, 1) := by decide +kernel
theorem dX7_input_18 : decode cX7_input 18 = .ok (.getfield 35, 3) := by decide +kernel
theorem dX7_input_21 : decode cX7_input 21 = .ok (.aload_n 0, 1) := by decide +kernel
theorem dX7_input_22 : decode cX7_input 22 = .ok (.iload_n 2, 1) := by decide +kernel
theorem dX7_input_23 : decode cX7_input 23 = .ok (.iconst 2, 1) := by decide +kernel
theorem dX7_input_24 : decode cX7_input 24 = .ok (.invokevirtual 49, 3) := by decide +kernel
theorem dX7_input_27 : decode cX7_input 27 = .ok (.laload, 1) := by decide +kernel
theorem dX7_input_28 : decode cX7_input 28 = .ok (.lsub, 1) := by decide +kernel
theorem dX7_input_29 : decode cX7_input 29 = .ok (.lreturn, 1) := by decide +kernel
theorem dX7_fault_0 : decode cX7_fault 0 = .ok (.iload_n 2, 1) := by decide +kernel
theorem dX7_fault_1 : decode cX7_fault 1 = .ok (.iload_n 1, 1) := by decide +kernel
theorem dX7_fault_2 : decode cX7_fault 2 = .ok (.invokestatic 95, 3) := by decide +kernel
theorem dX7_fault_5 : decode cX7_fault 5 = .ok (.istore_n 3, 1) := by decide +kernel
theorem dX7_fault_6 : decode cX7_fault 6 = .ok (.aload_n 0, 1) := by decide +kernel
theorem dX7_fault_7 : decode cX7_fault 7 = .ok (.iload_n 2, 1) := by decide +kernel
theorem dX7_fault_8 : decode cX7_fault 8 = .ok (.iconst (-1), 1) := by decide +kernel
theorem dX7_fault_9 : decode cX7_fault 9 = .ok (.invokevirtual 126, 3) := by decide +kernel
theorem dX7_fault_12 : decode cX7_fault 12 = .ok (.pop, 1) := by decide +kernel
theorem dX7_fault_13 : decode cX7_fault 13 = .ok (.iload_n 3, 1) := by decide +kernel
theorem dX7_fault_14 : decode cX7_fault 14 = .ok (.ifCond .ne 81, 3) := by decide +kernel
theorem dX7_fault_17 : decode cX7_fault 17 = .ok (.aload_n 0, 1) := by decide +kernel
theorem dX7_fault_18 : decode cX7_fault 18 = .ok (.getfield 35, 3) := by decide +kernel
theorem dX7_fault_21 : decode cX7_fault 21 = .ok (.aload_n 0, 1) := by decide +kernel
theorem dX7_fault_22 : decode cX7_fault 22 = .ok (.aload_n 0, 1) := by decide +kernel
theorem dX7_fault_23 : decode cX7_fault 23 = .ok (.iload_n 1, 1) := by decide +kernel
theorem dX7_fault_24 : decode cX7_fault 24 = .ok (.invokevirtual 92, 3) := by decide +kernel
theorem dX7_fault_27 : decode cX7_fault 27 = .ok (.iconst 3, 1) := by decide +kernel
theorem dX7_fault_28 : decode cX7_fault 28 = .ok (.invokevirtual 49, 3) := by decide +kernel
theorem dX7_fault_31 : decode cX7_fault 31 = .ok (.laload, 1) := by decide +kernel
theorem dX7_fault_32 : decode cX7_fault 32 = .ok (.lstore 4, 2) := by decide +kernel
theorem dX7_fault_34 : decode cX7_fault 34 = .ok (.aload_n 0, 1) := by decide +kernel
theorem dX7_fault_35 : decode cX7_fault 35 = .ok (.getfield 7, 3) := by decide +kernel
theorem dX7_fault_38 : decode cX7_fault 38 = .ok (.bipush 49, 2) := by decide +kernel
theorem dX7_fault_40 : decode cX7_fault 40 = .ok (.iaload, 1) := by decide +kernel
theorem dX7_fault_41 : decode cX7_fault 41 = .ok (.i2l, 1) := by decide +kernel
theorem dX7_fault_42 : decode cX7_fault 42 = .ok (.aload_n 0, 1) := by decide +kernel
theorem dX7_fault_43 : decode cX7_fault 43 = .ok (.getfield 122, 3) := by decide +kernel
theorem dX7_fault_46 : decode cX7_fault 46 = .ok (.lmul, 1) := by decide +kernel
theorem dX7_fault_47 : decode cX7_fault 47 = .ok (.lstore 6, 2) := by decide +kernel
theorem dX7_fault_49 : decode cX7_fault 49 = .ok (.lload 4, 2) := by decide +kernel
theorem dX7_fault_51 : decode cX7_fault 51 = .ok (.lload 6, 2) := by decide +kernel
theorem dX7_fault_53 : decode cX7_fault 53 = .ok (.lcmp, 1) := by decide +kernel
theorem dX7_fault_54 : decode cX7_fault 54 = .ok (.ifCond .gt 12, 3) := by decide +kernel
theorem dX7_fault_57 : decode cX7_fault 57 = .ok (.lload 4, 2) := by decide +kernel
theorem dX7_fault_59 : decode cX7_fault 59 = .ok (.lload 6, 2) := by decide +kernel
theorem dX7_fault_61 : decode cX7_fault 61 = .ok (.lneg, 1) := by decide +kernel
theorem dX7_fault_62 : decode cX7_fault 62 = .ok (.lcmp, 1) := by decide +kernel
theorem dX7_fault_63 : decode cX7_fault 63 = .ok (.ifCond .ge 7, 3) := by decide +kernel
theorem dX7_fault_66 : decode cX7_fault 66 = .ok (.iconst 2, 1) := by decide +kernel
theorem dX7_fault_67 : decode cX7_fault 67 = .ok (.goto 27, 3) := by decide +kernel
theorem dX7_fault_70 : decode cX7_fault 70 = .ok (.aload_n 0, 1) := by decide +kernel
theorem dX7_fault_71 : decode cX7_fault 71 = .ok (.iload_n 2, 1) := by decide +kernel
theorem dX7_fault_72 : decode cX7_fault 72 = .ok (.iload_n 1, 1) := by decide +kernel
theorem dX7_fault_73 : decode cX7_fault 73 = .ok (.invokevirtual 126, 3) := by decide +kernel
theorem dX7_fault_76 : decode cX7_fault 76 = .ok (.ifCond .eq 17, 3) := by decide +kernel
theorem dX7_fault_79 : decode cX7_fault 79 = .ok (.aload_n 0, 1) := by decide +kernel
theorem dX7_fault_80 : decode cX7_fault 80 = .ok (.iload_n 1, 1) := by decide +kernel
theorem dX7_fault_81 : decode cX7_fault 81 = .ok (.invokevirtual 129, 3) := by decide +kernel
theorem dX7_fault_84 : decode cX7_fault 84 = .ok (.lconst 0, 1) := by decide +kernel
theorem dX7_fault_85 : decode cX7_fault 85 = .ok (.lcmp, 1) := by decide +kernel
theorem dX7_fault_86 : decode cX7_fault 86 = .ok (.ifCond .ge 7, 3) := by decide +kernel
theorem dX7_fault_89 : decode cX7_fault 89 = .ok (.iconst 0, 1) := by decide +kernel
theorem dX7_fault_90 : decode cX7_fault 90 = .ok (.goto 4, 3) := by decide +kernel
theorem dX7_fault_93 : decode cX7_fault 93 = .ok (.iconst 5, 1) := by decide +kernel
theorem dX7_fault_94 : decode cX7_fault 94 = .ok (.ireturn, 1) := by decide +kernel
theorem dX7_fault_95 : decode cX7_fault 95 = .ok (.iload_n 3, 1) := by decide +kernel
theorem dX7_fault_96 : decode cX7_fault 96 = .ok (.iconst 1, 1) := by decide +kernel
theorem dX7_fault_97 : decode cX7_fault 97 = .ok (.if_icmp .ne 21, 3) := by decide +kernel
theorem dX7_fault_100 : decode cX7_fault 100 = .ok (.aload_n 0, 1) := by decide +kernel
theorem dX7_fault_101 : decode cX7_fault 101 = .ok (.iload_n 1, 1) := by decide +kernel
theorem dX7_fault_102 : decode cX7_fault 102 = .ok (.invokevirtual 129, 3) := by decide +kernel
theorem dX7_fault_105 : decode cX7_fault 105 = .ok (.lconst 0, 1) := by decide +kernel
theorem dX7_fault_106 : decode cX7_fault 106 = .ok (.lcmp, 1) := by decide +kernel
theorem dX7_fault_107 : decode cX7_fault 107 = .ok (.ifCond .le 7, 3) := by decide +kernel
theorem dX7_fault_110 : decode cX7_fault 110 = .ok (.iconst 0, 1) := by decide +kernel
theorem dX7_fault_111 : decode cX7_fault 111 = .ok (.goto 22, 3) := by decide +kernel
theorem dX7_fault_114 : decode cX7_fault 114 = .ok (.iconst 3, 1) := by decide +kernel
theorem dX7_fault_115 : decode cX7_fault 115 = .ok (.goto 18, 3) := by decide +kernel
theorem dX7_fault_118 : decode cX7_fault 118 = .ok (.aload_n 0, 1) := by decide +kernel
theorem dX7_fault_119 : decode cX7_fault 119 = .ok (.iload_n 1, 1) := by decide +kernel
theorem dX7_fault_120 : decode cX7_fault 120 = .ok (.invokevirtual 129, 3) := by decide +kernel
theorem dX7_fault_123 : decode cX7_fault 123 = .ok (.lconst 0, 1) := by decide +kernel
theorem dX7_fault_124 : decode cX7_fault 124 = .ok (.lcmp, 1) := by decide +kernel
theorem dX7_fault_125 : decode cX7_fault 125 = .ok (.ifCond .ge 7, 3) := by decide +kernel
theorem dX7_fault_128 : decode cX7_fault 128 = .ok (.iconst 0, 1) := by decide +kernel
theorem dX7_fault_129 : decode cX7_fault 129 = .ok (.goto 4, 3) := by decide +kernel
theorem dX7_fault_132 : decode cX7_fault 132 = .ok (.iconst 4, 1) := by decide +kernel
theorem dX7_fault_133 : decode cX7_fault 133 = .ok (.ireturn, 1) := by decide +kernel
theorem dX7_reason_0 : decode cX7_reason 0 = .ok (.aload_n 0, 1) := by decide +kernel
theorem dX7_reason_1 : decode cX7_reason 1 = .ok (.iconst (-1), 1) := by decide +kernel
theorem dX7_reason_2 : decode cX7_reason 2 = .ok (.putfield 132, 3) := by decide +kernel
theorem dX7_reason_5 : decode cX7_reason 5 = .ok (.aload_n 0, 1) := by decide +kernel
theorem dX7_reason_6 : decode cX7_reason 6 = .ok (.iload_n 1, 1) := by decide +kernel
theorem dX7_reason_7 : decode cX7_reason 7 = .ok (.iconst (-1), 1) := by decide +kernel
theorem dX7_reason_8 : decode cX7_reason 8 = .ok (.invokevirtual 126, 3) := by decide +kernel
theorem dX7_reason_11 : decode cX7_reason 11 = .ok (.ifCond .ne 5, 3) := by decide +kernel
theorem dX7_reason_14 : decode cX7_reason 14 = .ok (.iconst 1, 1) := by decide +kernel
theorem dX7_reason_15 : decode cX7_reason 15 = .ok (.ireturn, 1) := by decide +kernel
theorem dX7_reason_16 : decode cX7_reason 16 = .ok (.iconst 0, 1) := by decide +kernel
theorem dX7_reason_17 : decode cX7_reason 17 = .ok (.istore_n 2, 1) := by decide +kernel
theorem dX7_reason_18 : decode cX7_reason 18 = .ok (.iconst 0, 1) := by decide +kernel
theorem dX7_reason_19 : decode cX7_reason 19 = .ok (.istore_n 3, 1) := by decide +kernel
theorem dX7_reason_20 : decode cX7_reason 20 = .ok (.iload_n 3, 1) := by decide +kernel
theorem dX7_reason_21 : decode cX7_reason 21 = .ok (.aload_n 0, 1) := by decide +kernel
theorem dX7_reason_22 : decode cX7_reason 22 = .ok (.invokevirtual 64, 3) := by decide +kernel
theorem dX7_reason_25 : decode cX7_reason 25 = .ok (.if_icmp .ge 33, 3) := by decide +kernel
theorem dX7_reason_28 : decode cX7_reason 28 = .ok (.iload_n 2, 1) := by decide +kernel
theorem dX7_reason_29 : decode cX7_reason 29 = .ok (.ifCond .ne 29, 3) := by decide +kernel
theorem dX7_reason_32 : decode cX7_reason 32 = .ok (.aload_n 0, 1) := by decide +kernel
theorem dX7_reason_33 : decode cX7_reason 33 = .ok (.iload_n 3, 1) := by decide +kernel
theorem dX7_reason_34 : decode cX7_reason 34 = .ok (.iload_n 1, 1) := by decide +kernel
theorem dX7_reason_35 : decode cX7_reason 35 = .ok (.invokevirtual 135, 3) := by decide +kernel
theorem dX7_reason_38 : decode cX7_reason 38 = .ok (.istore_n 2, 1) := by decide +kernel
theorem dX7_reason_39 : decode cX7_reason 39 = .ok (.aload_n 0, 1) := by decide +kernel
theorem dX7_reason_40 : decode cX7_reason 40 = .ok (.iload_n 2, 1) := by decide +kernel
theorem dX7_reason_41 : decode cX7_reason 41 = .ok (.ifCond .le 7, 3) := by decide +kernel
theorem dX7_reason_44 : decode cX7_reason 44 = .ok (.iload_n 3, 1) := by decide +kernel
theorem dX7_reason_45 : decode cX7_reason 45 = .ok (.goto 4, 3) := by decide +kernel
theorem dX7_reason_48 : decode cX7_reason 48 = .ok (.iconst (-1), 1) := by decide +kernel
theorem dX7_reason_49 : decode cX7_reason 49 = .ok (.putfield 132, 3) := by decide +kernel
theorem dX7_reason_52 : decode cX7_reason 52 = .ok (.iinc 3 1, 3) := by decide +kernel
theorem dX7_reason_55 : decode cX7_reason 55 = .ok (.goto (-35), 3) := by decide +kernel
theorem dX7_reason_58 : decode cX7_reason 58 = .ok (.iload_n 2, 1) := by decide +kernel
theorem dX7_reason_59 : decode cX7_reason 59 = .ok (.ireturn, 1) := by decide +kernel
theorem dX7_unlike_0 : decode cX7_unlike 0 = .ok (.iconst 0, 1) := by decide +kernel
theorem dX7_unlike_1 : decode cX7_unlike 1 = .ok (.istore_n 3, 1) := by decide +kernel
theorem dX7_unlike_2 : decode cX7_unlike 2 = .ok (.iconst 0, 1) := by decide +kernel
theorem dX7_unlike_3 : decode cX7_unlike 3 = .ok (.istore 4, 2) := by decide +kernel
theorem dX7_unlike_5 : decode cX7_unlike 5 = .ok (.iload 4, 2) := by decide +kernel
theorem dX7_unlike_7 : decode cX7_unlike 7 = .ok (.iconst 3, 1) := by decide +kernel
theorem dX7_unlike_8 : decode cX7_unlike 8 = .ok (.if_icmp .ge 32, 3) := by decide +kernel
theorem dX7_unlike_11 : decode cX7_unlike 11 = .ok (.iload_n 3, 1) := by decide +kernel
theorem dX7_unlike_12 : decode cX7_unlike 12 = .ok (.iload_n 1, 1) := by decide +kernel
theorem dX7_unlike_13 : decode cX7_unlike 13 = .ok (.iload 4, 2) := by decide +kernel
theorem dX7_unlike_15 : decode cX7_unlike 15 = .ok (.invokestatic 95, 3) := by decide +kernel
theorem dX7_unlike_18 : decode cX7_unlike 18 = .ok (.iload_n 2, 1) := by decide +kernel
theorem dX7_unlike_19 : decode cX7_unlike 19 = .ok (.iload 4, 2) := by decide +kernel
theorem dX7_unlike_21 : decode cX7_unlike 21 = .ok (.invokestatic 95, 3) := by decide +kernel
theorem dX7_unlike_24 : decode cX7_unlike 24 = .ok (.if_icmp .ne 7, 3) := by decide +kernel
theorem dX7_unlike_27 : decode cX7_unlike 27 = .ok (.iconst 0, 1) := by decide +kernel
theorem dX7_unlike_28 : decode cX7_unlike 28 = .ok (.goto 4, 3) := by decide +kernel
theorem dX7_unlike_31 : decode cX7_unlike 31 = .ok (.iconst 1, 1) := by decide +kernel
theorem dX7_unlike_32 : decode cX7_unlike 32 = .ok (.iadd, 1) := by decide +kernel
theorem dX7_unlike_33 : decode cX7_unlike 33 = .ok (.istore_n 3, 1) := by decide +kernel
theorem dX7_unlike_34 : decode cX7_unlike 34 = .ok (.iinc 4 1, 3) := by decide +kernel
theorem dX7_unlike_37 : decode cX7_unlike 37 = .ok (.goto (-32), 3) := by decide +kernel
theorem dX7_unlike_40 : decode cX7_unlike 40 = .ok (.iload_n 3, 1) := by decide +kernel
theorem dX7_unlike_41 : decode cX7_unlike 41 = .ok (.ireturn, 1) := by decide +kernel
theorem dX7_settle_0 : decode cX7_settle 0 = .ok (.iconst (-1), 1) := by decide +kernel
theorem dX7_settle_1 : decode cX7_settle 1 = .ok (.istore_n 1, 1) := by decide +kernel
theorem dX7_settle_2 : decode cX7_settle 2 = .ok (.aload_n 0, 1) := by decide +kernel
theorem dX7_settle_3 : decode cX7_settle 3 = .ok (.invokevirtual 138, 3) := by decide +kernel
theorem dX7_settle_6 : decode cX7_settle 6 = .ok (.istore_n 2, 1) := by decide +kernel
theorem dX7_settle_7 : decode cX7_settle 7 = .ok (.iconst 0, 1) := by decide +kernel
theorem dX7_settle_8 : decode cX7_settle 8 = .ok (.istore_n 3, 1) := by decide +kernel
theorem dX7_settle_9 : decode cX7_settle 9 = .ok (.iload_n 3, 1) := by decide +kernel
theorem dX7_settle_10 : decode cX7_settle 10 = .ok (.iload_n 2, 1) := by decide +kernel
theorem dX7_settle_11 : decode cX7_settle 11 = .ok (.if_icmp .ge 67, 3) := by decide +kernel
theorem dX7_settle_14 : decode cX7_settle 14 = .ok (.iload_n 1, 1) := by decide +kernel
theorem dX7_settle_15 : decode cX7_settle 15 = .ok (.iconst (-1), 1) := by decide +kernel
theorem dX7_settle_16 : decode cX7_settle 16 = .ok (.if_icmp .eq 30, 3) := by decide +kernel
theorem dX7_settle_19 : decode cX7_settle 19 = .ok (.aload_n 0, 1) := by decide +kernel
theorem dX7_settle_20 : decode cX7_settle 20 = .ok (.iload_n 3, 1) := by decide +kernel
theorem dX7_settle_21 : decode cX7_settle 21 = .ok (.aload_n 0, 1) := by decide +kernel
theorem dX7_settle_22 : decode cX7_settle 22 = .ok (.getfield 7, 3) := by decide +kernel
theorem dX7_settle_25 : decode cX7_settle 25 = .ok (.bipush 50, 2) := by decide +kernel
theorem dX7_settle_27 : decode cX7_settle 27 = .ok (.iaload, 1) := by decide +kernel
theorem dX7_settle_28 : decode cX7_settle 28 = .ok (.invokevirtual 141, 3) := by decide +kernel
theorem dX7_settle_31 : decode cX7_settle 31 = .ok (.aload_n 0, 1) := by decide +kernel
theorem dX7_settle_32 : decode cX7_settle 32 = .ok (.iload_n 1, 1) := by decide +kernel
theorem dX7_settle_33 : decode cX7_settle 33 = .ok (.aload_n 0, 1) := by decide +kernel
theorem dX7_settle_34 : decode cX7_settle 34 = .ok (.getfield 7, 3) := by decide +kernel
theorem dX7_settle_37 : decode cX7_settle 37 = .ok (.bipush 50, 2) := by decide +kernel
theorem dX7_settle_39 : decode cX7_settle 39 = .ok (.iaload, 1) := by decide +kernel
theorem dX7_settle_40 : decode cX7_settle 40 = .ok (.invokevirtual 141, 3) := by decide +kernel
theorem dX7_settle_43 : decode cX7_settle 43 = .ok (.if_icmp .ge 7, 3) := by decide +kernel
theorem dX7_settle_46 : decode cX7_settle 46 = .ok (.iconst 1, 1) := by decide +kernel
theorem dX7_settle_47 : decode cX7_settle 47 = .ok (.goto 4, 3) := by decide +kernel
theorem dX7_settle_50 : decode cX7_settle 50 = .ok (.iconst 0, 1) := by decide +kernel
theorem dX7_settle_51 : decode cX7_settle 51 = .ok (.istore 4, 2) := by decide +kernel
theorem dX7_settle_53 : decode cX7_settle 53 = .ok (.iload 4, 2) := by decide +kernel
theorem dX7_settle_55 : decode cX7_settle 55 = .ok (.ifCond .eq 15, 3) := by decide +kernel
theorem dX7_settle_58 : decode cX7_settle 58 = .ok (.aload_n 0, 1) := by decide +kernel
theorem dX7_settle_59 : decode cX7_settle 59 = .ok (.iload_n 3, 1) := by decide +kernel
theorem dX7_settle_60 : decode cX7_settle 60 = .ok (.invokevirtual 144, 3) := by decide +kernel
theorem dX7_settle_63 : decode cX7_settle 63 = .ok (.ifCond .ne 7, 3) := by decide +kernel
theorem dX7_settle_66 : decode cX7_settle 66 = .ok (.iload_n 3, 1) := by decide +kernel
theorem dX7_settle_67 : decode cX7_settle 67 = .ok (.goto 4, 3) := by decide +kernel
theorem dX7_settle_70 : decode cX7_settle 70 = .ok (.iload_n 1, 1) := by decide +kernel
theorem dX7_settle_71 : decode cX7_settle 71 = .ok (.istore_n 1, 1) := by decide +kernel
theorem dX7_settle_72 : decode cX7_settle 72 = .ok (.iinc 3 1, 3) := by decide +kernel
theorem dX7_settle_75 : decode cX7_settle 75 = .ok (.goto (-66), 3) := by decide +kernel
theorem dX7_settle_78 : decode cX7_settle 78 = .ok (.aload_n 0, 1) := by decide +kernel
theorem dX7_settle_79 : decode cX7_settle 79 = .ok (.getfield 7, 3) := by decide +kernel
theorem dX7_settle_82 : decode cX7_settle 82 = .ok (.bipush 51, 2) := by decide +kernel
theorem dX7_settle_84 : decode cX7_settle 84 = .ok (.iload_n 1, 1) := by decide +kernel
theorem dX7_settle_85 : decode cX7_settle 85 = .ok (.iconst (-1), 1) := by decide +kernel
theorem dX7_settle_86 : decode cX7_settle 86 = .ok (.if_icmp .ne 7, 3) := by decide +kernel
theorem dX7_settle_89 : decode cX7_settle 89 = .ok (.iconst 0, 1) := by decide +kernel
theorem dX7_settle_90 : decode cX7_settle 90 = .ok (.goto 4, 3) := by decide +kernel
theorem dX7_settle_93 : decode cX7_settle 93 = .ok (.iconst 1, 1) := by decide +kernel
theorem dX7_settle_94 : decode cX7_settle 94 = .ok (.iastore, 1) := by decide +kernel
theorem dX7_settle_95 : decode cX7_settle 95 = .ok (.aload_n 0, 1) := by decide +kernel
theorem dX7_settle_96 : decode cX7_settle 96 = .ok (.getfield 7, 3) := by decide +kernel
theorem dX7_settle_99 : decode cX7_settle 99 = .ok (.bipush 50, 2) := by decide +kernel
theorem dX7_settle_101 : decode cX7_settle 101 = .ok (.iload_n 1, 1) := by decide +kernel
theorem dX7_settle_102 : decode cX7_settle 102 = .ok (.iconst (-1), 1) := by decide +kernel
theorem dX7_settle_103 : decode cX7_settle 103 = .ok (.if_icmp .ne 13, 3) := by decide +kernel
theorem dX7_settle_106 : decode cX7_settle 106 = .ok (.aload_n 0, 1) := by decide +kernel
theorem dX7_settle_107 : decode cX7_settle 107 = .ok (.getfield 7, 3) := by decide +kernel
theorem dX7_settle_110 : decode cX7_settle 110 = .ok (.bipush 50, 2) := by decide +kernel
theorem dX7_settle_112 : decode cX7_settle 112 = .ok (.iaload, 1) := by decide +kernel
theorem dX7_settle_113 : decode cX7_settle 113 = .ok (.goto 4, 3) := by decide +kernel
theorem dX7_settle_116 : decode cX7_settle 116 = .ok (.iload_n 1, 1) := by decide +kernel
theorem dX7_settle_117 : decode cX7_settle 117 = .ok (.iastore, 1) := by decide +kernel
theorem dX7_settle_118 : decode cX7_settle 118 = .ok (.return_, 1) := by decide +kernel
theorem dX7_begin_0 : decode cX7_begin 0 = .ok (.aload_n 0, 1) := by decide +kernel
theorem dX7_begin_1 : decode cX7_begin 1 = .ok (.iconst 0, 1) := by decide +kernel
theorem dX7_begin_2 : decode cX7_begin 2 = .ok (.putfield 41, 3) := by decide +kernel
theorem dX7_begin_5 : decode cX7_begin 5 = .ok (.aload_n 0, 1) := by decide +kernel
theorem dX7_begin_6 : decode cX7_begin 6 = .ok (.invokevirtual 147, 3) := by decide +kernel
theorem dX7_begin_9 : decode cX7_begin 9 = .ok (.aload_n 0, 1) := by decide +kernel
theorem dX7_begin_10 : decode cX7_begin 10 = .ok (.getfield 7, 3) := by decide +kernel
theorem dX7_begin_13 : decode cX7_begin 13 = .ok (.bipush 48, 2) := by decide +kernel
theorem dX7_begin_15 : decode cX7_begin 15 = .ok (.iaload, 1) := by decide +kernel
theorem dX7_begin_16 : decode cX7_begin 16 = .ok (.istore_n 1, 1) := by decide +kernel
theorem dX7_begin_17 : decode cX7_begin 17 = .ok (.aload_n 0, 1) := by decide +kernel
theorem dX7_begin_18 : decode cX7_begin 18 = .ok (.getfield 7, 3) := by decide +kernel
theorem dX7_begin_21 : decode cX7_begin 21 = .ok (.bipush 48, 2) := by decide +kernel
theorem dX7_begin_23 : decode cX7_begin 23 = .ok (.iconst 0, 1) := by decide +kernel
theorem dX7_begin_24 : decode cX7_begin 24 = .ok (.iastore, 1) := by decide +kernel
theorem dX7_begin_25 : decode cX7_begin 25 = .ok (.aload_n 0, 1) := by decide +kernel
theorem dX7_begin_26 : decode cX7_begin 26 = .ok (.getfield 7, 3) := by decide +kernel
theorem dX7_begin_29 : decode cX7_begin 29 = .ok (.bipush 49, 2) := by decide +kernel
theorem dX7_begin_31 : decode cX7_begin 31 = .ok (.sipush 150, 3) := by decide +kernel
theorem dX7_begin_34 : decode cX7_begin 34 = .ok (.iastore, 1) := by decide +kernel
theorem dX7_begin_35 : decode cX7_begin 35 = .ok (.aload_n 0, 1) := by decide +kernel
theorem dX7_begin_36 : decode cX7_begin 36 = .ok (.getfield 7, 3) := by decide +kernel
theorem dX7_begin_39 : decode cX7_begin 39 = .ok (.bipush 50, 2) := by decide +kernel
theorem dX7_begin_41 : decode cX7_begin 41 = .ok (.iconst 0, 1) := by decide +kernel
theorem dX7_begin_42 : decode cX7_begin 42 = .ok (.iastore, 1) := by decide +kernel
theorem dX7_begin_43 : decode cX7_begin 43 = .ok (.aload_n 0, 1) := by decide +kernel
theorem dX7_begin_44 : decode cX7_begin 44 = .ok (.invokevirtual 150, 3) := by decide +kernel
theorem dX7_begin_47 : decode cX7_begin 47 = .ok (.iload_n 1, 1) := by decide +kernel
theorem dX7_begin_48 : decode cX7_begin 48 = .ok (.ireturn, 1) := by decide +kernel
theorem dX7_setRail_0 : decode cX7_setRail 0 = .ok (.aload_n 0, 1) := by decide +kernel
theorem dX7_setRail_1 : decode cX7_setRail 1 = .ok (.iload_n 1, 1) := by decide +kernel
theorem dX7_setRail_2 : decode cX7_setRail 2 = .ok (.bipush 10, 2) := by decide +kernel
theorem dX7_setRail_4 : decode cX7_setRail 4 = .ok (.sipush 200, 3) := by decide +kernel
theorem dX7_setRail_7 : decode cX7_setRail 7 = .ok (.invokestatic 45, 3) := by decide +kernel
theorem dX7_setRail_10 : decode cX7_setRail 10 = .ok (.ifCond .eq 7, 3) := by decide +kernel
theorem dX7_setRail_13 : decode cX7_setRail 13 = .ok (.iconst 0, 1) := by decide +kernel
theorem dX7_setRail_14 : decode cX7_setRail 14 = .ok (.goto 4, 3) := by decide +kernel
theorem dX7_setRail_17 : decode cX7_setRail 17 = .ok (.iconst 1, 1) := by decide +kernel
theorem dX7_setRail_18 : decode cX7_setRail 18 = .ok (.putfield 41, 3) := by decide +kernel
theorem dX7_setRail_21 : decode cX7_setRail 21 = .ok (.aload_n 0, 1) := by decide +kernel
theorem dX7_setRail_22 : decode cX7_setRail 22 = .ok (.getfield 41, 3) := by decide +kernel
theorem dX7_setRail_25 : decode cX7_setRail 25 = .ok (.ifCond .le 5, 3) := by decide +kernel
theorem dX7_setRail_28 : decode cX7_setRail 28 = .ok (.iconst 0, 1) := by decide +kernel
theorem dX7_setRail_29 : decode cX7_setRail 29 = .ok (.ireturn, 1) := by decide +kernel
theorem dX7_setRail_30 : decode cX7_setRail 30 = .ok (.aload_n 0, 1) := by decide +kernel
theorem dX7_setRail_31 : decode cX7_setRail 31 = .ok (.invokevirtual 147, 3) := by decide +kernel
theorem dX7_setRail_34 : decode cX7_setRail 34 = .ok (.aload_n 0, 1) := by decide +kernel
theorem dX7_setRail_35 : decode cX7_setRail 35 = .ok (.getfield 7, 3) := by decide +kernel
theorem dX7_setRail_38 : decode cX7_setRail 38 = .ok (.bipush 49, 2) := by decide +kernel
theorem dX7_setRail_40 : decode cX7_setRail 40 = .ok (.iaload, 1) := by decide +kernel
theorem dX7_setRail_41 : decode cX7_setRail 41 = .ok (.istore_n 2, 1) := by decide +kernel
theorem dX7_setRail_42 : decode cX7_setRail 42 = .ok (.aload_n 0, 1) := by decide +kernel
theorem dX7_setRail_43 : decode cX7_setRail 43 = .ok (.getfield 7, 3) := by decide +kernel
theorem dX7_setRail_46 : decode cX7_setRail 46 = .ok (.bipush 49, 2) := by decide +kernel
theorem dX7_setRail_48 : decode cX7_setRail 48 = .ok (.iload_n 1, 1) := by decide +kernel
theorem dX7_setRail_49 : decode cX7_setRail 49 = .ok (.iastore, 1) := by decide +kernel
theorem dX7_setRail_50 : decode cX7_setRail 50 = .ok (.aload_n 0, 1) := by decide +kernel
theorem dX7_setRail_51 : decode cX7_setRail 51 = .ok (.invokevirtual 150, 3) := by decide +kernel
theorem dX7_setRail_54 : decode cX7_setRail 54 = .ok (.iload_n 2, 1) := by decide +kernel
theorem dX7_setRail_55 : decode cX7_setRail 55 = .ok (.ireturn, 1) := by decide +kernel
theorem dX7_isValue_0 : decode cX7_isValue 0 = .ok (.aload_n 0, 1) := by decide +kernel
theorem dX7_isValue_1 : decode cX7_isValue 1 = .ok (.iload_n 1, 1) := by decide +kernel
theorem dX7_isValue_2 : decode cX7_isValue 2 = .ok (.iconst 0, 1) := by decide +kernel
theorem dX7_isValue_3 : decode cX7_isValue 3 = .ok (.invokevirtual 60, 3) := by decide +kernel
theorem dX7_isValue_6 : decode cX7_isValue 6 = .ok (.ifCond .eq 12, 3) := by decide +kernel
theorem dX7_isValue_9 : decode cX7_isValue 9 = .ok (.iload_n 2, 1) := by decide +kernel
theorem dX7_isValue_10 : decode cX7_isValue 10 = .ok (.iconst 1, 1) := by decide +kernel
theorem dX7_isValue_11 : decode cX7_isValue 11 = .ok (.iconst 4, 1) := by decide +kernel
theorem dX7_isValue_12 : decode cX7_isValue 12 = .ok (.invokestatic 45, 3) := by decide +kernel
theorem dX7_isValue_15 : decode cX7_isValue 15 = .ok (.goto 13, 3) := by decide +kernel
theorem dX7_isValue_18 : decode cX7_isValue 18 = .ok (.iload_n 2, 1) := by decide +kernel
theorem dX7_isValue_19 : decode cX7_isValue 19 = .ok (.sipush (-200), 3) := by decide +kernel
theorem dX7_isValue_22 : decode cX7_isValue 22 = .ok (.sipush 200, 3) := by decide +kernel
theorem dX7_isValue_25 : decode cX7_isValue 25 = .ok (.invokestatic 45, 3) := by decide +kernel
theorem dX7_isValue_28 : decode cX7_isValue 28 = .ok (.ireturn, 1) := by decide +kernel
theorem dX7_setValue_0 : decode cX7_setValue 0 = .ok (.aload_n 0, 1) := by decide +kernel
theorem dX7_setValue_1 : decode cX7_setValue 1 = .ok (.aload_n 0, 1) := by decide +kernel
theorem dX7_setValue_2 : decode cX7_setValue 2 = .ok (.iload_n 1, 1) := by decide +kernel
theorem dX7_setValue_3 : decode cX7_setValue 3 = .ok (.invokevirtual 153, 3) := by decide +kernel
theorem dX7_setValue_6 : decode cX7_setValue 6 = .ok (.ifCond .ne 7, 3) := by decide +kernel
theorem dX7_setValue_9 : decode cX7_setValue 9 = .ok (.iconst 1, 1) := by decide +kernel
theorem dX7_setValue_10 : decode cX7_setValue 10 = .ok (.goto 30, 3) := by decide +kernel
theorem dX7_setValue_13 : decode cX7_setValue 13 = .ok (.aload_n 0, 1) := by decide +kernel
theorem dX7_setValue_14 : decode cX7_setValue 14 = .ok (.iload_n 1, 1) := by decide +kernel
theorem dX7_setValue_15 : decode cX7_setValue 15 = .ok (.iconst 2, 1) := by decide +kernel
theorem dX7_setValue_16 : decode cX7_setValue 16 = .ok (.invokevirtual 60, 3) := by decide +kernel
theorem dX7_setValue_19 : decode cX7_setValue 19 = .ok (.ifCond .eq 7, 3) := by decide +kernel
theorem dX7_setValue_22 : decode cX7_setValue 22 = .ok (.iconst 2, 1) := by decide +kernel
theorem dX7_setValue_23 : decode cX7_setValue 23 = .ok (.goto 17, 3) := by decide +kernel
theorem dX7_setValue_26 : decode cX7_setValue 26 = .ok (.aload_n 0, 1) := by decide +kernel
theorem dX7_setValue_27 : decode cX7_setValue 27 = .ok (.iload_n 1, 1) := by decide +kernel
theorem dX7_setValue_28 : decode cX7_setValue 28 = .ok (.iload_n 2, 1) := by decide +kernel
theorem dX7_setValue_29 : decode cX7_setValue 29 = .ok (.invokevirtual 156, 3) := by decide +kernel
theorem dX7_setValue_32 : decode cX7_setValue 32 = .ok (.ifCond .eq 7, 3) := by decide +kernel
theorem dX7_setValue_35 : decode cX7_setValue 35 = .ok (.iconst 0, 1) := by decide +kernel
theorem dX7_setValue_36 : decode cX7_setValue 36 = .ok (.goto 4, 3) := by decide +kernel
theorem dX7_setValue_39 : decode cX7_setValue 39 = .ok (.iconst 3, 1) := by decide +kernel
theorem dX7_setValue_40 : decode cX7_setValue 40 = .ok (.putfield 41, 3) := by decide +kernel
theorem dX7_setValue_43 : decode cX7_setValue 43 = .ok (.aload_n 0, 1) := by decide +kernel
theorem dX7_setValue_44 : decode cX7_setValue 44 = .ok (.getfield 41, 3) := by decide +kernel
theorem dX7_setValue_47 : decode cX7_setValue 47 = .ok (.ifCond .le 5, 3) := by decide +kernel
theorem dX7_setValue_50 : decode cX7_setValue 50 = .ok (.iconst 0, 1) := by decide +kernel
theorem dX7_setValue_51 : decode cX7_setValue 51 = .ok (.ireturn, 1) := by decide +kernel
theorem dX7_setValue_52 : decode cX7_setValue 52 = .ok (.aload_n 0, 1) := by decide +kernel
theorem dX7_setValue_53 : decode cX7_setValue 53 = .ok (.invokevirtual 147, 3) := by decide +kernel
theorem dX7_setValue_56 : decode cX7_setValue 56 = .ok (.aload_n 0, 1) := by decide +kernel
theorem dX7_setValue_57 : decode cX7_setValue 57 = .ok (.iload_n 1, 1) := by decide +kernel
theorem dX7_setValue_58 : decode cX7_setValue 58 = .ok (.iconst 3, 1) := by decide +kernel
theorem dX7_setValue_59 : decode cX7_setValue 59 = .ok (.invokevirtual 49, 3) := by decide +kernel
theorem dX7_setValue_62 : decode cX7_setValue 62 = .ok (.istore_n 3, 1) := by decide +kernel
theorem dX7_setValue_63 : decode cX7_setValue 63 = .ok (.aload_n 0, 1) := by decide +kernel
theorem dX7_setValue_64 : decode cX7_setValue 64 = .ok (.getfield 7, 3) := by decide +kernel
theorem dX7_setValue_67 : decode cX7_setValue 67 = .ok (.iconst 4, 1) := by decide +kernel
theorem dX7_setValue_68 : decode cX7_setValue 68 = .ok (.iload_n 1, 1) := by decide +kernel
theorem dX7_setValue_69 : decode cX7_setValue 69 = .ok (.imul, 1) := by decide +kernel
theorem dX7_setValue_70 : decode cX7_setValue 70 = .ok (.iconst 3, 1) := by decide +kernel
theorem dX7_setValue_71 : decode cX7_setValue 71 = .ok (.iadd, 1) := by decide +kernel
theorem dX7_setValue_72 : decode cX7_setValue 72 = .ok (.iload_n 2, 1) := by decide +kernel
theorem dX7_setValue_73 : decode cX7_setValue 73 = .ok (.iastore, 1) := by decide +kernel
theorem dX7_setValue_74 : decode cX7_setValue 74 = .ok (.aload_n 0, 1) := by decide +kernel
theorem dX7_setValue_75 : decode cX7_setValue 75 = .ok (.invokevirtual 150, 3) := by decide +kernel
theorem dX7_setValue_78 : decode cX7_setValue 78 = .ok (.iload_n 3, 1) := by decide +kernel
theorem dX7_setValue_79 : decode cX7_setValue 79 = .ok (.ireturn, 1) := by decide +kernel
theorem dX7_takeOut_0 : decode cX7_takeOut 0 = .ok (.iconst 1, 1) := by decide +kernel
theorem dX7_takeOut_1 : decode cX7_takeOut 1 = .ok (.istore_n 2, 1) := by decide +kernel
theorem dX7_takeOut_2 : decode cX7_takeOut 2 = .ok (.iconst 0, 1) := by decide +kernel
theorem dX7_takeOut_3 : decode cX7_takeOut 3 = .ok (.istore_n 3, 1) := by decide +kernel
theorem dX7_takeOut_4 : decode cX7_takeOut 4 = .ok (.iload_n 3, 1) := by decide +kernel
theorem dX7_takeOut_5 : decode cX7_takeOut 5 = .ok (.iload_n 1, 1) := by decide +kernel
theorem dX7_takeOut_6 : decode cX7_takeOut 6 = .ok (.if_icmp .ge 13, 3) := by decide +kernel
theorem dX7_takeOut_9 : decode cX7_takeOut 9 = .ok (.iload_n 2, 1) := by decide +kernel
theorem dX7_takeOut_10 : decode cX7_takeOut 10 = .ok (.iconst 3, 1) := by decide +kernel
theorem dX7_takeOut_11 : decode cX7_takeOut 11 = .ok (.imul, 1) := by decide +kernel
theorem dX7_takeOut_12 : decode cX7_takeOut 12 = .ok (.istore_n 2, 1) := by decide +kernel
theorem dX7_takeOut_13 : decode cX7_takeOut 13 = .ok (.iinc 3 1, 3) := by decide +kernel
theorem dX7_takeOut_16 : decode cX7_takeOut 16 = .ok (.goto (-12), 3) := by decide +kernel
theorem dX7_takeOut_19 : decode cX7_takeOut 19 = .ok (.aload_n 0, 1) := by decide +kernel
theorem dX7_takeOut_20 : decode cX7_takeOut 20 = .ok (.getfield 7, 3) := by decide +kernel
theorem dX7_takeOut_23 : decode cX7_takeOut 23 = .ok (.bipush 50, 2) := by decide +kernel
theorem dX7_takeOut_25 : decode cX7_takeOut 25 = .ok (.aload_n 0, 1) := by decide +kernel
theorem dX7_takeOut_26 : decode cX7_takeOut 26 = .ok (.getfield 7, 3) := by decide +kernel
theorem dX7_takeOut_29 : decode cX7_takeOut 29 = .ok (.bipush 50, 2) := by decide +kernel
theorem dX7_takeOut_31 : decode cX7_takeOut 31 = .ok (.iaload, 1) := by decide +kernel
theorem dX7_takeOut_32 : decode cX7_takeOut 32 = .ok (.iload_n 2, 1) := by decide +kernel
theorem dX7_takeOut_33 : decode cX7_takeOut 33 = .ok (.irem, 1) := by decide +kernel
theorem dX7_takeOut_34 : decode cX7_takeOut 34 = .ok (.aload_n 0, 1) := by decide +kernel
theorem dX7_takeOut_35 : decode cX7_takeOut 35 = .ok (.getfield 7, 3) := by decide +kernel
theorem dX7_takeOut_38 : decode cX7_takeOut 38 = .ok (.bipush 50, 2) := by decide +kernel
theorem dX7_takeOut_40 : decode cX7_takeOut 40 = .ok (.iaload, 1) := by decide +kernel
theorem dX7_takeOut_41 : decode cX7_takeOut 41 = .ok (.iconst 3, 1) := by decide +kernel
theorem dX7_takeOut_42 : decode cX7_takeOut 42 = .ok (.iload_n 2, 1) := by decide +kernel
theorem dX7_takeOut_43 : decode cX7_takeOut 43 = .ok (.imul, 1) := by decide +kernel
theorem dX7_takeOut_44 : decode cX7_takeOut 44 = .ok (.idiv, 1) := by decide +kernel
theorem dX7_takeOut_45 : decode cX7_takeOut 45 = .ok (.iload_n 2, 1) := by decide +kernel
theorem dX7_takeOut_46 : decode cX7_takeOut 46 = .ok (.imul, 1) := by decide +kernel
theorem dX7_takeOut_47 : decode cX7_takeOut 47 = .ok (.iadd, 1) := by decide +kernel
theorem dX7_takeOut_48 : decode cX7_takeOut 48 = .ok (.iastore, 1) := by decide +kernel
theorem dX7_takeOut_49 : decode cX7_takeOut 49 = .ok (.return_, 1) := by decide +kernel
theorem dX7_drop_0 : decode cX7_drop 0 = .ok (.aload_n 0, 1) := by decide +kernel
theorem dX7_drop_1 : decode cX7_drop 1 = .ok (.aload_n 0, 1) := by decide +kernel
theorem dX7_drop_2 : decode cX7_drop 2 = .ok (.iload_n 1, 1) := by decide +kernel
theorem dX7_drop_3 : decode cX7_drop 3 = .ok (.invokevirtual 153, 3) := by decide +kernel
theorem dX7_drop_6 : decode cX7_drop 6 = .ok (.ifCond .eq 7, 3) := by decide +kernel
theorem dX7_drop_9 : decode cX7_drop 9 = .ok (.iconst 0, 1) := by decide +kernel
theorem dX7_drop_10 : decode cX7_drop 10 = .ok (.goto 4, 3) := by decide +kernel
theorem dX7_drop_13 : decode cX7_drop 13 = .ok (.iconst 1, 1) := by decide +kernel
theorem dX7_drop_14 : decode cX7_drop 14 = .ok (.putfield 41, 3) := by decide +kernel
theorem dX7_drop_17 : decode cX7_drop 17 = .ok (.aload_n 0, 1) := by decide +kernel
theorem dX7_drop_18 : decode cX7_drop 18 = .ok (.getfield 41, 3) := by decide +kernel
theorem dX7_drop_21 : decode cX7_drop 21 = .ok (.ifCond .le 5, 3) := by decide +kernel
theorem dX7_drop_24 : decode cX7_drop 24 = .ok (.iconst 0, 1) := by decide +kernel
theorem dX7_drop_25 : decode cX7_drop 25 = .ok (.ireturn, 1) := by decide +kernel
theorem dX7_drop_26 : decode cX7_drop 26 = .ok (.aload_n 0, 1) := by decide +kernel
theorem dX7_drop_27 : decode cX7_drop 27 = .ok (.invokevirtual 147, 3) := by decide +kernel
theorem dX7_drop_30 : decode cX7_drop 30 = .ok (.aload_n 0, 1) := by decide +kernel
theorem dX7_drop_31 : decode cX7_drop 31 = .ok (.iload_n 1, 1) := by decide +kernel
theorem dX7_drop_32 : decode cX7_drop 32 = .ok (.iconst 2, 1) := by decide +kernel
theorem dX7_drop_33 : decode cX7_drop 33 = .ok (.invokevirtual 60, 3) := by decide +kernel
theorem dX7_drop_36 : decode cX7_drop 36 = .ok (.ifCond .eq 25, 3) := by decide +kernel
theorem dX7_drop_39 : decode cX7_drop 39 = .ok (.iconst 0, 1) := by decide +kernel
theorem dX7_drop_40 : decode cX7_drop 40 = .ok (.istore_n 2, 1) := by decide +kernel
theorem dX7_drop_41 : decode cX7_drop 41 = .ok (.aload_n 0, 1) := by decide +kernel
theorem dX7_drop_42 : decode cX7_drop 42 = .ok (.iload_n 2, 1) := by decide +kernel
theorem dX7_drop_43 : decode cX7_drop 43 = .ok (.invokevirtual 92, 3) := by decide +kernel
theorem dX7_drop_46 : decode cX7_drop 46 = .ok (.iload_n 1, 1) := by decide +kernel
theorem dX7_drop_47 : decode cX7_drop 47 = .ok (.if_icmp .eq 9, 3) := by decide +kernel
theorem dX7_drop_50 : decode cX7_drop 50 = .ok (.iinc 2 1, 3) := by decide +kernel
theorem dX7_drop_53 : decode cX7_drop 53 = .ok (.goto (-12), 3) := by decide +kernel
theorem dX7_drop_56 : decode cX7_drop 56 = .ok (.aload_n 0, 1) := by decide +kernel
theorem dX7_drop_57 : decode cX7_drop 57 = .ok (.iload_n 2, 1) := by decide +kernel
theorem dX7_drop_58 : decode cX7_drop 58 = .ok (.invokevirtual 159, 3) := by decide +kernel
theorem dX7_drop_61 : decode cX7_drop 61 = .ok (.aload_n 0, 1) := by decide +kernel
theorem dX7_drop_62 : decode cX7_drop 62 = .ok (.getfield 7, 3) := by decide +kernel
theorem dX7_drop_65 : decode cX7_drop 65 = .ok (.bipush 48, 2) := by decide +kernel
theorem dX7_drop_67 : decode cX7_drop 67 = .ok (.dup2, 1) := by decide +kernel
theorem dX7_drop_68 : decode cX7_drop 68 = .ok (.iaload, 1) := by decide +kernel
theorem dX7_drop_69 : decode cX7_drop 69 = .ok (.iconst 1, 1) := by decide +kernel
theorem dX7_drop_70 : decode cX7_drop 70 = .ok (.isub, 1) := by decide +kernel
theorem dX7_drop_71 : decode cX7_drop 71 = .ok (.iastore, 1) := by decide +kernel
theorem dX7_drop_72 : decode cX7_drop 72 = .ok (.iconst 4, 1) := by decide +kernel
theorem dX7_drop_73 : decode cX7_drop 73 = .ok (.iload_n 1, 1) := by decide +kernel
theorem dX7_drop_74 : decode cX7_drop 74 = .ok (.imul, 1) := by decide +kernel
theorem dX7_drop_75 : decode cX7_drop 75 = .ok (.istore_n 2, 1) := by decide +kernel
theorem dX7_drop_76 : decode cX7_drop 76 = .ok (.iload_n 2, 1) := by decide +kernel
theorem dX7_drop_77 : decode cX7_drop 77 = .ok (.iconst 4, 1) := by decide +kernel
theorem dX7_drop_78 : decode cX7_drop 78 = .ok (.aload_n 0, 1) := by decide +kernel
theorem dX7_drop_79 : decode cX7_drop 79 = .ok (.getfield 7, 3) := by decide +kernel
theorem dX7_drop_82 : decode cX7_drop 82 = .ok (.bipush 48, 2) := by decide +kernel
theorem dX7_drop_84 : decode cX7_drop 84 = .ok (.iaload, 1) := by decide +kernel
theorem dX7_drop_85 : decode cX7_drop 85 = .ok (.imul, 1) := by decide +kernel
theorem dX7_drop_86 : decode cX7_drop 86 = .ok (.if_icmp .ge 23, 3) := by decide +kernel
theorem dX7_drop_89 : decode cX7_drop 89 = .ok (.aload_n 0, 1) := by decide +kernel
theorem dX7_drop_90 : decode cX7_drop 90 = .ok (.getfield 7, 3) := by decide +kernel
theorem dX7_drop_93 : decode cX7_drop 93 = .ok (.iload_n 2, 1) := by decide +kernel
theorem dX7_drop_94 : decode cX7_drop 94 = .ok (.aload_n 0, 1) := by decide +kernel
theorem dX7_drop_95 : decode cX7_drop 95 = .ok (.getfield 7, 3) := by decide +kernel
theorem dX7_drop_98 : decode cX7_drop 98 = .ok (.iload_n 2, 1) := by decide +kernel
theorem dX7_drop_99 : decode cX7_drop 99 = .ok (.iconst 4, 1) := by decide +kernel
theorem dX7_drop_100 : decode cX7_drop 100 = .ok (.iadd, 1) := by decide +kernel
theorem dX7_drop_101 : decode cX7_drop 101 = .ok (.iaload, 1) := by decide +kernel
theorem dX7_drop_102 : decode cX7_drop 102 = .ok (.iastore, 1) := by decide +kernel
theorem dX7_drop_103 : decode cX7_drop 103 = .ok (.iinc 2 1, 3) := by decide +kernel
theorem dX7_drop_106 : decode cX7_drop 106 = .ok (.goto (-30), 3) := by decide +kernel
theorem dX7_drop_109 : decode cX7_drop 109 = .ok (.aload_n 0, 1) := by decide +kernel
theorem dX7_drop_110 : decode cX7_drop 110 = .ok (.invokevirtual 150, 3) := by decide +kernel
theorem dX7_drop_113 : decode cX7_drop 113 = .ok (.aload_n 0, 1) := by decide +kernel
theorem dX7_drop_114 : decode cX7_drop 114 = .ok (.getfield 7, 3) := by decide +kernel
theorem dX7_drop_117 : decode cX7_drop 117 = .ok (.bipush 48, 2) := by decide +kernel
theorem dX7_drop_119 : decode cX7_drop 119 = .ok (.iaload, 1) := by decide +kernel
theorem dX7_drop_120 : decode cX7_drop 120 = .ok (.ireturn, 1) := by decide +kernel
theorem dX7_sweep_0 : decode cX7_sweep 0 = .ok (.aload_n 0, 1) := by decide +kernel
theorem dX7_sweep_1 : decode cX7_sweep 1 = .ok (.aload_n 0, 1) := by decide +kernel
theorem dX7_sweep_2 : decode cX7_sweep 2 = .ok (.iload_n 1, 1) := by decide +kernel
theorem dX7_sweep_3 : decode cX7_sweep 3 = .ok (.invokevirtual 153, 3) := by decide +kernel
theorem dX7_sweep_6 : decode cX7_sweep 6 = .ok (.ifCond .ne 7, 3) := by decide +kernel
theorem dX7_sweep_9 : decode cX7_sweep 9 = .ok (.iconst 1, 1) := by decide +kernel
theorem dX7_sweep_10 : decode cX7_sweep 10 = .ok (.goto 34, 3) := by decide +kernel
theorem dX7_sweep_13 : decode cX7_sweep 13 = .ok (.aload_n 0, 1) := by decide +kernel
theorem dX7_sweep_14 : decode cX7_sweep 14 = .ok (.iload_n 1, 1) := by decide +kernel
theorem dX7_sweep_15 : decode cX7_sweep 15 = .ok (.iconst 1, 1) := by decide +kernel
theorem dX7_sweep_16 : decode cX7_sweep 16 = .ok (.invokevirtual 60, 3) := by decide +kernel
theorem dX7_sweep_19 : decode cX7_sweep 19 = .ok (.ifCond .ne 7, 3) := by decide +kernel
theorem dX7_sweep_22 : decode cX7_sweep 22 = .ok (.iconst 2, 1) := by decide +kernel
theorem dX7_sweep_23 : decode cX7_sweep 23 = .ok (.goto 21, 3) := by decide +kernel
theorem dX7_sweep_26 : decode cX7_sweep 26 = .ok (.iload_n 2, 1) := by decide +kernel
theorem dX7_sweep_27 : decode cX7_sweep 27 = .ok (.sipush (-200), 3) := by decide +kernel
theorem dX7_sweep_30 : decode cX7_sweep 30 = .ok (.sipush 200, 3) := by decide +kernel
theorem dX7_sweep_33 : decode cX7_sweep 33 = .ok (.invokestatic 45, 3) := by decide +kernel
theorem dX7_sweep_36 : decode cX7_sweep 36 = .ok (.ifCond .eq 7, 3) := by decide +kernel
theorem dX7_sweep_39 : decode cX7_sweep 39 = .ok (.iconst 0, 1) := by decide +kernel
theorem dX7_sweep_40 : decode cX7_sweep 40 = .ok (.goto 4, 3) := by decide +kernel
theorem dX7_sweep_43 : decode cX7_sweep 43 = .ok (.iconst 3, 1) := by decide +kernel
theorem dX7_sweep_44 : decode cX7_sweep 44 = .ok (.putfield 41, 3) := by decide +kernel
theorem dX7_sweep_47 : decode cX7_sweep 47 = .ok (.aload_n 0, 1) := by decide +kernel
theorem dX7_sweep_48 : decode cX7_sweep 48 = .ok (.getfield 41, 3) := by decide +kernel
theorem dX7_sweep_51 : decode cX7_sweep 51 = .ok (.ifCond .le 5, 3) := by decide +kernel
theorem dX7_sweep_54 : decode cX7_sweep 54 = .ok (.iconst 0, 1) := by decide +kernel
theorem dX7_sweep_55 : decode cX7_sweep 55 = .ok (.ireturn, 1) := by decide +kernel
theorem dX7_sweep_56 : decode cX7_sweep 56 = .ok (.aload_n 0, 1) := by decide +kernel
theorem dX7_sweep_57 : decode cX7_sweep 57 = .ok (.invokevirtual 147, 3) := by decide +kernel
theorem dX7_sweep_60 : decode cX7_sweep 60 = .ok (.iconst 0, 1) := by decide +kernel
theorem dX7_sweep_61 : decode cX7_sweep 61 = .ok (.istore_n 3, 1) := by decide +kernel
theorem dX7_sweep_62 : decode cX7_sweep 62 = .ok (.aload_n 0, 1) := by decide +kernel
theorem dX7_sweep_63 : decode cX7_sweep 63 = .ok (.iload_n 1, 1) := by decide +kernel
theorem dX7_sweep_64 : decode cX7_sweep 64 = .ok (.iconst 3, 1) := by decide +kernel
theorem dX7_sweep_65 : decode cX7_sweep 65 = .ok (.invokevirtual 49, 3) := by decide +kernel
theorem dX7_sweep_68 : decode cX7_sweep 68 = .ok (.iload_n 2, 1) := by decide +kernel
theorem dX7_sweep_69 : decode cX7_sweep 69 = .ok (.if_icmp .eq 67, 3) := by decide +kernel
theorem dX7_sweep_72 : decode cX7_sweep 72 = .ok (.aload_n 0, 1) := by decide +kernel
theorem dX7_sweep_73 : decode cX7_sweep 73 = .ok (.getfield 7, 3) := by decide +kernel
theorem dX7_sweep_76 : decode cX7_sweep 76 = .ok (.bipush 50, 2) := by decide +kernel
theorem dX7_sweep_78 : decode cX7_sweep 78 = .ok (.iaload, 1) := by decide +kernel
theorem dX7_sweep_79 : decode cX7_sweep 79 = .ok (.istore 4, 2) := by decide +kernel
theorem dX7_sweep_81 : decode cX7_sweep 81 = .ok (.aload_n 0, 1) := by decide +kernel
theorem dX7_sweep_82 : decode cX7_sweep 82 = .ok (.getfield 7, 3) := by decide +kernel
theorem dX7_sweep_85 : decode cX7_sweep 85 = .ok (.iconst 4, 1) := by decide +kernel
theorem dX7_sweep_86 : decode cX7_sweep 86 = .ok (.iload_n 1, 1) := by decide +kernel
theorem dX7_sweep_87 : decode cX7_sweep 87 = .ok (.imul, 1) := by decide +kernel
theorem dX7_sweep_88 : decode cX7_sweep 88 = .ok (.iconst 3, 1) := by decide +kernel
theorem dX7_sweep_89 : decode cX7_sweep 89 = .ok (.iadd, 1) := by decide +kernel
theorem dX7_sweep_90 : decode cX7_sweep 90 = .ok (.dup2, 1) := by decide +kernel
theorem dX7_sweep_91 : decode cX7_sweep 91 = .ok (.iaload, 1) := by decide +kernel
theorem dX7_sweep_92 : decode cX7_sweep 92 = .ok (.aload_n 0, 1) := by decide +kernel
theorem dX7_sweep_93 : decode cX7_sweep 93 = .ok (.iload_n 1, 1) := by decide +kernel
theorem dX7_sweep_94 : decode cX7_sweep 94 = .ok (.iconst 3, 1) := by decide +kernel
theorem dX7_sweep_95 : decode cX7_sweep 95 = .ok (.invokevirtual 49, 3) := by decide +kernel
theorem dX7_sweep_98 : decode cX7_sweep 98 = .ok (.iload_n 2, 1) := by decide +kernel
theorem dX7_sweep_99 : decode cX7_sweep 99 = .ok (.if_icmp .ge 7, 3) := by decide +kernel
theorem dX7_sweep_102 : decode cX7_sweep 102 = .ok (.iconst 1, 1) := by decide +kernel
theorem dX7_sweep_103 : decode cX7_sweep 103 = .ok (.goto 4, 3) := by decide +kernel
theorem dX7_sweep_106 : decode cX7_sweep 106 = .ok (.iconst (-1), 1) := by decide +kernel
theorem dX7_sweep_107 : decode cX7_sweep 107 = .ok (.iadd, 1) := by decide +kernel
theorem dX7_sweep_108 : decode cX7_sweep 108 = .ok (.iastore, 1) := by decide +kernel
theorem dX7_sweep_109 : decode cX7_sweep 109 = .ok (.aload_n 0, 1) := by decide +kernel
theorem dX7_sweep_110 : decode cX7_sweep 110 = .ok (.invokevirtual 150, 3) := by decide +kernel
theorem dX7_sweep_113 : decode cX7_sweep 113 = .ok (.iload_n 3, 1) := by decide +kernel
theorem dX7_sweep_114 : decode cX7_sweep 114 = .ok (.aload_n 0, 1) := by decide +kernel
theorem dX7_sweep_115 : decode cX7_sweep 115 = .ok (.getfield 7, 3) := by decide +kernel
theorem dX7_sweep_118 : decode cX7_sweep 118 = .ok (.bipush 50, 2) := by decide +kernel
theorem dX7_sweep_120 : decode cX7_sweep 120 = .ok (.iaload, 1) := by decide +kernel
theorem dX7_sweep_121 : decode cX7_sweep 121 = .ok (.iload 4, 2) := by decide +kernel
theorem dX7_sweep_123 : decode cX7_sweep 123 = .ok (.if_icmp .ne 7, 3) := by decide +kernel
theorem dX7_sweep_126 : decode cX7_sweep 126 = .ok (.iconst 0, 1) := by decide +kernel
theorem dX7_sweep_127 : decode cX7_sweep 127 = .ok (.goto 4, 3) := by decide +kernel
theorem dX7_sweep_130 : decode cX7_sweep 130 = .ok (.iconst 1, 1) := by decide +kernel
theorem dX7_sweep_131 : decode cX7_sweep 131 = .ok (.iadd, 1) := by decide +kernel
theorem dX7_sweep_132 : decode cX7_sweep 132 = .ok (.istore_n 3, 1) := by decide +kernel
theorem dX7_sweep_133 : decode cX7_sweep 133 = .ok (.goto (-71), 3) := by decide +kernel
theorem dX7_sweep_136 : decode cX7_sweep 136 = .ok (.iload_n 3, 1) := by decide +kernel
theorem dX7_sweep_137 : decode cX7_sweep 137 = .ok (.ireturn, 1) := by decide +kernel
theorem dX7_undo_0 : decode cX7_undo 0 = .ok (.aload_n 0, 1) := by decide +kernel
theorem dX7_undo_1 : decode cX7_undo 1 = .ok (.aload_n 0, 1) := by decide +kernel
theorem dX7_undo_2 : decode cX7_undo 2 = .ok (.getfield 53, 3) := by decide +kernel
theorem dX7_undo_5 : decode cX7_undo 5 = .ok (.ifCond .le 7, 3) := by decide +kernel
theorem dX7_undo_8 : decode cX7_undo 8 = .ok (.iconst 0, 1) := by decide +kernel
theorem dX7_undo_9 : decode cX7_undo 9 = .ok (.goto 4, 3) := by decide +kernel
theorem dX7_undo_12 : decode cX7_undo 12 = .ok (.iconst 1, 1) := by decide +kernel
theorem dX7_undo_13 : decode cX7_undo 13 = .ok (.putfield 41, 3) := by decide +kernel
theorem dX7_undo_16 : decode cX7_undo 16 = .ok (.aload_n 0, 1) := by decide +kernel
theorem dX7_undo_17 : decode cX7_undo 17 = .ok (.getfield 41, 3) := by decide +kernel
theorem dX7_undo_20 : decode cX7_undo 20 = .ok (.ifCond .le 5, 3) := by decide +kernel
theorem dX7_undo_23 : decode cX7_undo 23 = .ok (.iconst 0, 1) := by decide +kernel
theorem dX7_undo_24 : decode cX7_undo 24 = .ok (.ireturn, 1) := by decide +kernel
theorem dX7_undo_25 : decode cX7_undo 25 = .ok (.aload_n 0, 1) := by decide +kernel
theorem dX7_undo_26 : decode cX7_undo 26 = .ok (.dup, 1) := by decide +kernel
theorem dX7_undo_27 : decode cX7_undo 27 = .ok (.getfield 53, 3) := by decide +kernel
theorem dX7_undo_30 : decode cX7_undo 30 = .ok (.iconst 1, 1) := by decide +kernel
theorem dX7_undo_31 : decode cX7_undo 31 = .ok (.isub, 1) := by decide +kernel
theorem dX7_undo_32 : decode cX7_undo 32 = .ok (.putfield 53, 3) := by decide +kernel
theorem dX7_undo_35 : decode cX7_undo 35 = .ok (.aload_n 0, 1) := by decide +kernel
theorem dX7_undo_36 : decode cX7_undo 36 = .ok (.aload_n 0, 1) := by decide +kernel
theorem dX7_undo_37 : decode cX7_undo 37 = .ok (.getfield 16, 3) := by decide +kernel
theorem dX7_undo_40 : decode cX7_undo 40 = .ok (.bipush 52, 2) := by decide +kernel
theorem dX7_undo_42 : decode cX7_undo 42 = .ok (.aload_n 0, 1) := by decide +kernel
theorem dX7_undo_43 : decode cX7_undo 43 = .ok (.getfield 53, 3) := by decide +kernel
theorem dX7_undo_46 : decode cX7_undo 46 = .ok (.imul, 1) := by decide +kernel
theorem dX7_undo_47 : decode cX7_undo 47 = .ok (.aload_n 0, 1) := by decide +kernel
theorem dX7_undo_48 : decode cX7_undo 48 = .ok (.getfield 7, 3) := by decide +kernel
theorem dX7_undo_51 : decode cX7_undo 51 = .ok (.iconst 0, 1) := by decide +kernel
theorem dX7_undo_52 : decode cX7_undo 52 = .ok (.invokevirtual 56, 3) := by decide +kernel
theorem dX7_undo_55 : decode cX7_undo 55 = .ok (.aload_n 0, 1) := by decide +kernel
theorem dX7_undo_56 : decode cX7_undo 56 = .ok (.getfield 53, 3) := by decide +kernel
theorem dX7_undo_59 : decode cX7_undo 59 = .ok (.ireturn, 1) := by decide +kernel
theorem dX7_keep_0 : decode cX7_keep 0 = .ok (.aload_n 0, 1) := by decide +kernel
theorem dX7_keep_1 : decode cX7_keep 1 = .ok (.iload_n 1, 1) := by decide +kernel
theorem dX7_keep_2 : decode cX7_keep 2 = .ok (.iconst 0, 1) := by decide +kernel
theorem dX7_keep_3 : decode cX7_keep 3 = .ok (.iconst 1, 1) := by decide +kernel
theorem dX7_keep_4 : decode cX7_keep 4 = .ok (.invokestatic 45, 3) := by decide +kernel
theorem dX7_keep_7 : decode cX7_keep 7 = .ok (.ifCond .eq 7, 3) := by decide +kernel
theorem dX7_keep_10 : decode cX7_keep 10 = .ok (.iconst 0, 1) := by decide +kernel
theorem dX7_keep_11 : decode cX7_keep 11 = .ok (.goto 4, 3) := by decide +kernel
theorem dX7_keep_14 : decode cX7_keep 14 = .ok (.iconst 1, 1) := by decide +kernel
theorem dX7_keep_15 : decode cX7_keep 15 = .ok (.putfield 41, 3) := by decide +kernel
theorem dX7_keep_18 : decode cX7_keep 18 = .ok (.aload_n 0, 1) := by decide +kernel
theorem dX7_keep_19 : decode cX7_keep 19 = .ok (.getfield 41, 3) := by decide +kernel
theorem dX7_keep_22 : decode cX7_keep 22 = .ok (.ifCond .le 5, 3) := by decide +kernel
theorem dX7_keep_25 : decode cX7_keep 25 = .ok (.iconst 0, 1) := by decide +kernel
theorem dX7_keep_26 : decode cX7_keep 26 = .ok (.ireturn, 1) := by decide +kernel
theorem dX7_keep_27 : decode cX7_keep 27 = .ok (.aload_n 0, 1) := by decide +kernel
theorem dX7_keep_28 : decode cX7_keep 28 = .ok (.aload_n 0, 1) := by decide +kernel
theorem dX7_keep_29 : decode cX7_keep 29 = .ok (.getfield 7, 3) := by decide +kernel
theorem dX7_keep_32 : decode cX7_keep 32 = .ok (.iconst 0, 1) := by decide +kernel
theorem dX7_keep_33 : decode cX7_keep 33 = .ok (.aload_n 0, 1) := by decide +kernel
theorem dX7_keep_34 : decode cX7_keep 34 = .ok (.getfield 19, 3) := by decide +kernel
theorem dX7_keep_37 : decode cX7_keep 37 = .ok (.bipush 52, 2) := by decide +kernel
theorem dX7_keep_39 : decode cX7_keep 39 = .ok (.iload_n 1, 1) := by decide +kernel
theorem dX7_keep_40 : decode cX7_keep 40 = .ok (.imul, 1) := by decide +kernel
theorem dX7_keep_41 : decode cX7_keep 41 = .ok (.invokevirtual 56, 3) := by decide +kernel
theorem dX7_keep_44 : decode cX7_keep 44 = .ok (.aload_n 0, 1) := by decide +kernel
theorem dX7_keep_45 : decode cX7_keep 45 = .ok (.dup, 1) := by decide +kernel
theorem dX7_keep_46 : decode cX7_keep 46 = .ok (.getfield 163, 3) := by decide +kernel
theorem dX7_keep_49 : decode cX7_keep 49 = .ok (.iconst 1, 1) := by decide +kernel
theorem dX7_keep_50 : decode cX7_keep 50 = .ok (.iload_n 1, 1) := by decide +kernel
theorem dX7_keep_51 : decode cX7_keep 51 = .ok (.ishl, 1) := by decide +kernel
theorem dX7_keep_52 : decode cX7_keep 52 = .ok (.ior, 1) := by decide +kernel
theorem dX7_keep_53 : decode cX7_keep 53 = .ok (.putfield 163, 3) := by decide +kernel
theorem dX7_keep_56 : decode cX7_keep 56 = .ok (.aload_n 0, 1) := by decide +kernel
theorem dX7_keep_57 : decode cX7_keep 57 = .ok (.getfield 7, 3) := by decide +kernel
theorem dX7_keep_60 : decode cX7_keep 60 = .ok (.bipush 48, 2) := by decide +kernel
theorem dX7_keep_62 : decode cX7_keep 62 = .ok (.iaload, 1) := by decide +kernel
theorem dX7_keep_63 : decode cX7_keep 63 = .ok (.ireturn, 1) := by decide +kernel
theorem dX7_back_0 : decode cX7_back 0 = .ok (.aload_n 0, 1) := by decide +kernel
theorem dX7_back_1 : decode cX7_back 1 = .ok (.iload_n 1, 1) := by decide +kernel
theorem dX7_back_2 : decode cX7_back 2 = .ok (.iconst 0, 1) := by decide +kernel
theorem dX7_back_3 : decode cX7_back 3 = .ok (.iconst 1, 1) := by decide +kernel
theorem dX7_back_4 : decode cX7_back 4 = .ok (.invokestatic 45, 3) := by decide +kernel
theorem dX7_back_7 : decode cX7_back 7 = .ok (.ifCond .ne 7, 3) := by decide +kernel
theorem dX7_back_10 : decode cX7_back 10 = .ok (.iconst 1, 1) := by decide +kernel
theorem dX7_back_11 : decode cX7_back 11 = .ok (.goto 20, 3) := by decide +kernel
theorem dX7_back_14 : decode cX7_back 14 = .ok (.aload_n 0, 1) := by decide +kernel
theorem dX7_back_15 : decode cX7_back 15 = .ok (.getfield 163, 3) := by decide +kernel
theorem dX7_back_18 : decode cX7_back 18 = .ok (.iload_n 1, 1) := by decide +kernel
theorem dX7_back_19 : decode cX7_back 19 = .ok (.ishr, 1) := by decide +kernel
theorem dX7_back_20 : decode cX7_back 20 = .ok (.iconst 1, 1) := by decide +kernel
theorem dX7_back_21 : decode cX7_back 21 = .ok (.iand, 1) := by decide +kernel
theorem dX7_back_22 : decode cX7_back 22 = .ok (.iconst 1, 1) := by decide +kernel
theorem dX7_back_23 : decode cX7_back 23 = .ok (.if_icmp .ne 7, 3) := by decide +kernel
theorem dX7_back_26 : decode cX7_back 26 = .ok (.iconst 0, 1) := by decide +kernel
theorem dX7_back_27 : decode cX7_back 27 = .ok (.goto 4, 3) := by decide +kernel
theorem dX7_back_30 : decode cX7_back 30 = .ok (.iconst 2, 1) := by decide +kernel
theorem dX7_back_31 : decode cX7_back 31 = .ok (.putfield 41, 3) := by decide +kernel
theorem dX7_back_34 : decode cX7_back 34 = .ok (.aload_n 0, 1) := by decide +kernel
theorem dX7_back_35 : decode cX7_back 35 = .ok (.getfield 41, 3) := by decide +kernel
theorem dX7_back_38 : decode cX7_back 38 = .ok (.ifCond .le 5, 3) := by decide +kernel
theorem dX7_back_41 : decode cX7_back 41 = .ok (.iconst 0, 1) := by decide +kernel
theorem dX7_back_42 : decode cX7_back 42 = .ok (.ireturn, 1) := by decide +kernel
theorem dX7_back_43 : decode cX7_back 43 = .ok (.aload_n 0, 1) := by decide +kernel
theorem dX7_back_44 : decode cX7_back 44 = .ok (.invokevirtual 147, 3) := by decide +kernel
theorem dX7_back_47 : decode cX7_back 47 = .ok (.aload_n 0, 1) := by decide +kernel
theorem dX7_back_48 : decode cX7_back 48 = .ok (.aload_n 0, 1) := by decide +kernel
theorem dX7_back_49 : decode cX7_back 49 = .ok (.getfield 19, 3) := by decide +kernel
theorem dX7_back_52 : decode cX7_back 52 = .ok (.bipush 52, 2) := by decide +kernel
theorem dX7_back_54 : decode cX7_back 54 = .ok (.iload_n 1, 1) := by decide +kernel
theorem dX7_back_55 : decode cX7_back 55 = .ok (.imul, 1) := by decide +kernel
theorem dX7_back_56 : decode cX7_back 56 = .ok (.aload_n 0, 1) := by decide +kernel
theorem dX7_back_57 : decode cX7_back 57 = .ok (.getfield 7, 3) := by decide +kernel
theorem dX7_back_60 : decode cX7_back 60 = .ok (.iconst 0, 1) := by decide +kernel
theorem dX7_back_61 : decode cX7_back 61 = .ok (.invokevirtual 56, 3) := by decide +kernel
theorem dX7_back_64 : decode cX7_back 64 = .ok (.aload_n 0, 1) := by decide +kernel
theorem dX7_back_65 : decode cX7_back 65 = .ok (.getfield 7, 3) := by decide +kernel
theorem dX7_back_68 : decode cX7_back 68 = .ok (.bipush 48, 2) := by decide +kernel
theorem dX7_back_70 : decode cX7_back 70 = .ok (.iaload, 1) := by decide +kernel
theorem dX7_back_71 : decode cX7_back 71 = .ok (.ireturn, 1) := by decide +kernel
theorem dX7_append_0 : decode cX7_append 0 = .ok (.aload_n 0, 1) := by decide +kernel
theorem dX7_append_1 : decode cX7_append 1 = .ok (.iload_n 1, 1) := by decide +kernel
theorem dX7_append_2 : decode cX7_append 2 = .ok (.bipush 32, 2) := by decide +kernel
theorem dX7_append_4 : decode cX7_append 4 = .ok (.bipush 126, 2) := by decide +kernel
theorem dX7_append_6 : decode cX7_append 6 = .ok (.invokestatic 45, 3) := by decide +kernel
theorem dX7_append_9 : decode cX7_append 9 = .ok (.ifCond .ne 7, 3) := by decide +kernel
theorem dX7_append_12 : decode cX7_append 12 = .ok (.iconst 1, 1) := by decide +kernel
theorem dX7_append_13 : decode cX7_append 13 = .ok (.goto 17, 3) := by decide +kernel
theorem dX7_append_16 : decode cX7_append 16 = .ok (.aload_n 0, 1) := by decide +kernel
theorem dX7_append_17 : decode cX7_append 17 = .ok (.getfield 166, 3) := by decide +kernel
theorem dX7_append_20 : decode cX7_append 20 = .ok (.bipush 60, 2) := by decide +kernel
theorem dX7_append_22 : decode cX7_append 22 = .ok (.if_icmp .ne 7, 3) := by decide +kernel
theorem dX7_append_25 : decode cX7_append 25 = .ok (.iconst 2, 1) := by decide +kernel
theorem dX7_append_26 : decode cX7_append 26 = .ok (.goto 4, 3) := by decide +kernel
theorem dX7_append_29 : decode cX7_append 29 = .ok (.iconst 0, 1) := by decide +kernel
theorem dX7_append_30 : decode cX7_append 30 = .ok (.putfield 41, 3) := by decide +kernel
theorem dX7_append_33 : decode cX7_append 33 = .ok (.aload_n 0, 1) := by decide +kernel
theorem dX7_append_34 : decode cX7_append 34 = .ok (.getfield 41, 3) := by decide +kernel
theorem dX7_append_37 : decode cX7_append 37 = .ok (.ifCond .le 5, 3) := by decide +kernel
theorem dX7_append_40 : decode cX7_append 40 = .ok (.iconst 0, 1) := by decide +kernel
theorem dX7_append_41 : decode cX7_append 41 = .ok (.ireturn, 1) := by decide +kernel
theorem dX7_append_42 : decode cX7_append 42 = .ok (.aload_n 0, 1) := by decide +kernel
theorem dX7_append_43 : decode cX7_append 43 = .ok (.getfield 22, 3) := by decide +kernel
theorem dX7_append_46 : decode cX7_append 46 = .ok (.aload_n 0, 1) := by decide +kernel
theorem dX7_append_47 : decode cX7_append 47 = .ok (.getfield 166, 3) := by decide +kernel
theorem dX7_append_50 : decode cX7_append 50 = .ok (.iload_n 1, 1) := by decide +kernel
theorem dX7_append_51 : decode cX7_append 51 = .ok (.iastore, 1) := by decide +kernel
theorem dX7_append_52 : decode cX7_append 52 = .ok (.aload_n 0, 1) := by decide +kernel
theorem dX7_append_53 : decode cX7_append 53 = .ok (.dup, 1) := by decide +kernel
theorem dX7_append_54 : decode cX7_append 54 = .ok (.getfield 166, 3) := by decide +kernel
theorem dX7_append_57 : decode cX7_append 57 = .ok (.iconst 1, 1) := by decide +kernel
theorem dX7_append_58 : decode cX7_append 58 = .ok (.iadd, 1) := by decide +kernel
theorem dX7_append_59 : decode cX7_append 59 = .ok (.putfield 166, 3) := by decide +kernel
theorem dX7_append_62 : decode cX7_append 62 = .ok (.aload_n 0, 1) := by decide +kernel
theorem dX7_append_63 : decode cX7_append 63 = .ok (.getfield 166, 3) := by decide +kernel
theorem dX7_append_66 : decode cX7_append 66 = .ok (.ireturn, 1) := by decide +kernel
theorem dX7_clearInput_0 : decode cX7_clearInput 0 = .ok (.aload_n 0, 1) := by decide +kernel
theorem dX7_clearInput_1 : decode cX7_clearInput 1 = .ok (.iconst 0, 1) := by decide +kernel
theorem dX7_clearInput_2 : decode cX7_clearInput 2 = .ok (.putfield 41, 3) := by decide +kernel
theorem dX7_clearInput_5 : decode cX7_clearInput 5 = .ok (.aload_n 0, 1) := by decide +kernel
theorem dX7_clearInput_6 : decode cX7_clearInput 6 = .ok (.getfield 166, 3) := by decide +kernel
theorem dX7_clearInput_9 : decode cX7_clearInput 9 = .ok (.istore_n 1, 1) := by decide +kernel
theorem dX7_clearInput_10 : decode cX7_clearInput 10 = .ok (.aload_n 0, 1) := by decide +kernel
theorem dX7_clearInput_11 : decode cX7_clearInput 11 = .ok (.iconst 0, 1) := by decide +kernel
theorem dX7_clearInput_12 : decode cX7_clearInput 12 = .ok (.putfield 166, 3) := by decide +kernel
theorem dX7_clearInput_15 : decode cX7_clearInput 15 = .ok (.iload_n 1, 1) := by decide +kernel
theorem dX7_clearInput_16 : decode cX7_clearInput 16 = .ok (.ireturn, 1) := by decide +kernel
theorem dX7_put_0 : decode cX7_put 0 = .ok (.aload_n 0, 1) := by decide +kernel
theorem dX7_put_1 : decode cX7_put 1 = .ok (.getfield 38, 3) := by decide +kernel
theorem dX7_put_4 : decode cX7_put 4 = .ok (.iconst 4, 1) := by decide +kernel
theorem dX7_put_5 : decode cX7_put 5 = .ok (.aload_n 0, 1) := by decide +kernel
theorem dX7_put_6 : decode cX7_put 6 = .ok (.getfield 169, 3) := by decide +kernel
theorem dX7_put_9 : decode cX7_put 9 = .ok (.imul, 1) := by decide +kernel
theorem dX7_put_10 : decode cX7_put 10 = .ok (.iload_n 1, 1) := by decide +kernel
theorem dX7_put_11 : decode cX7_put 11 = .ok (.iadd, 1) := by decide +kernel
theorem dX7_put_12 : decode cX7_put 12 = .ok (.iload_n 2, 1) := by decide +kernel
theorem dX7_put_13 : decode cX7_put 13 = .ok (.iastore, 1) := by decide +kernel
theorem dX7_put_14 : decode cX7_put 14 = .ok (.return_, 1) := by decide +kernel
theorem dX7_takesLetter_0 : decode cX7_takesLetter 0 = .ok (.aload_n 0, 1) := by decide +kernel
theorem dX7_takesLetter_1 : decode cX7_takesLetter 1 = .ok (.iconst 0, 1) := by decide +kernel
theorem dX7_takesLetter_2 : decode cX7_takesLetter 2 = .ok (.iload_n 1, 1) := by decide +kernel
theorem dX7_takesLetter_3 : decode cX7_takesLetter 3 = .ok (.bipush 114, 2) := by decide +kernel
theorem dX7_takesLetter_5 : decode cX7_takesLetter 5 = .ok (.if_icmp .ne 7, 3) := by decide +kernel
theorem dX7_takesLetter_8 : decode cX7_takesLetter 8 = .ok (.iconst 0, 1) := by decide +kernel
theorem dX7_takesLetter_9 : decode cX7_takesLetter 9 = .ok (.goto 14, 3) := by decide +kernel
theorem dX7_takesLetter_12 : decode cX7_takesLetter 12 = .ok (.iload_n 1, 1) := by decide +kernel
theorem dX7_takesLetter_13 : decode cX7_takesLetter 13 = .ok (.bipush 115, 2) := by decide +kernel
theorem dX7_takesLetter_15 : decode cX7_takesLetter 15 = .ok (.if_icmp .ne 7, 3) := by decide +kernel
theorem dX7_takesLetter_18 : decode cX7_takesLetter 18 = .ok (.iconst 1, 1) := by decide +kernel
theorem dX7_takesLetter_19 : decode cX7_takesLetter 19 = .ok (.goto 4, 3) := by decide +kernel
theorem dX7_takesLetter_22 : decode cX7_takesLetter 22 = .ok (.iconst 2, 1) := by decide +kernel
theorem dX7_takesLetter_23 : decode cX7_takesLetter 23 = .ok (.invokevirtual 172, 3) := by decide +kernel
theorem dX7_takesLetter_26 : decode cX7_takesLetter 26 = .ok (.aload_n 0, 1) := by decide +kernel
theorem dX7_takesLetter_27 : decode cX7_takesLetter 27 = .ok (.iconst 2, 1) := by decide +kernel
theorem dX7_takesLetter_28 : decode cX7_takesLetter 28 = .ok (.iconst (-1), 1) := by decide +kernel
theorem dX7_takesLetter_29 : decode cX7_takesLetter 29 = .ok (.invokevirtual 172, 3) := by decide +kernel
theorem dX7_takesLetter_32 : decode cX7_takesLetter 32 = .ok (.aload_n 0, 1) := by decide +kernel
theorem dX7_takesLetter_33 : decode cX7_takesLetter 33 = .ok (.iconst 0, 1) := by decide +kernel
theorem dX7_takesLetter_34 : decode cX7_takesLetter 34 = .ok (.putfield 175, 3) := by decide +kernel
theorem dX7_takesLetter_37 : decode cX7_takesLetter 37 = .ok (.aload_n 0, 1) := by decide +kernel
theorem dX7_takesLetter_38 : decode cX7_takesLetter 38 = .ok (.iconst 0, 1) := by decide +kernel
theorem dX7_takesLetter_39 : decode cX7_takesLetter 39 = .ok (.putfield 179, 3) := by decide +kernel
theorem dX7_takesLetter_42 : decode cX7_takesLetter 42 = .ok (.aload_n 0, 1) := by decide +kernel
theorem dX7_takesLetter_43 : decode cX7_takesLetter 43 = .ok (.iconst 0, 1) := by decide +kernel
theorem dX7_takesLetter_44 : decode cX7_takesLetter 44 = .ok (.putfield 182, 3) := by decide +kernel
theorem dX7_takesLetter_47 : decode cX7_takesLetter 47 = .ok (.aload_n 0, 1) := by decide +kernel
theorem dX7_takesLetter_48 : decode cX7_takesLetter 48 = .ok (.iload_n 1, 1) := by decide +kernel
theorem dX7_takesLetter_49 : decode cX7_takesLetter 49 = .ok (.bipush 115, 2) := by decide +kernel
theorem dX7_takesLetter_51 : decode cX7_takesLetter 51 = .ok (.if_icmp .ne 7, 3) := by decide +kernel
theorem dX7_takesLetter_54 : decode cX7_takesLetter 54 = .ok (.iconst 4, 1) := by decide +kernel
theorem dX7_takesLetter_55 : decode cX7_takesLetter 55 = .ok (.goto 23, 3) := by decide +kernel
theorem dX7_takesLetter_58 : decode cX7_takesLetter 58 = .ok (.iload_n 1, 1) := by decide +kernel
theorem dX7_takesLetter_59 : decode cX7_takesLetter 59 = .ok (.bipush 114, 2) := by decide +kernel
theorem dX7_takesLetter_61 : decode cX7_takesLetter 61 = .ok (.if_icmp .eq 9, 3) := by decide +kernel
theorem dX7_takesLetter_64 : decode cX7_takesLetter 64 = .ok (.iload_n 1, 1) := by decide +kernel
theorem dX7_takesLetter_65 : decode cX7_takesLetter 65 = .ok (.bipush 111, 2) := by decide +kernel
theorem dX7_takesLetter_67 : decode cX7_takesLetter 67 = .ok (.if_icmp .ne 7, 3) := by decide +kernel
theorem dX7_takesLetter_70 : decode cX7_takesLetter 70 = .ok (.iconst 1, 1) := by decide +kernel
theorem dX7_takesLetter_71 : decode cX7_takesLetter 71 = .ok (.goto 7, 3) := by decide +kernel
theorem dX7_takesLetter_74 : decode cX7_takesLetter 74 = .ok (.aload_n 0, 1) := by decide +kernel
theorem dX7_takesLetter_75 : decode cX7_takesLetter 75 = .ok (.getfield 185, 3) := by decide +kernel
theorem dX7_takesLetter_78 : decode cX7_takesLetter 78 = .ok (.putfield 185, 3) := by decide +kernel
theorem dX7_takesLetter_81 : decode cX7_takesLetter 81 = .ok (.aload_n 0, 1) := by decide +kernel
theorem dX7_takesLetter_82 : decode cX7_takesLetter 82 = .ok (.getfield 185, 3) := by decide +kernel
theorem dX7_takesLetter_85 : decode cX7_takesLetter 85 = .ok (.ifCond .le 7, 3) := by decide +kernel
theorem dX7_takesLetter_88 : decode cX7_takesLetter 88 = .ok (.iconst 1, 1) := by decide +kernel
theorem dX7_takesLetter_89 : decode cX7_takesLetter 89 = .ok (.goto 4, 3) := by decide +kernel
theorem dX7_takesLetter_92 : decode cX7_takesLetter 92 = .ok (.iconst 0, 1) := by decide +kernel
theorem dX7_takesLetter_93 : decode cX7_takesLetter 93 = .ok (.ireturn, 1) := by decide +kernel
theorem dX7_takesNode_0 : decode cX7_takesNode 0 = .ok (.iload_n 1, 1) := by decide +kernel
theorem dX7_takesNode_1 : decode cX7_takesNode 1 = .ok (.bipush 48, 2) := by decide +kernel
theorem dX7_takesNode_3 : decode cX7_takesNode 3 = .ok (.bipush 54, 2) := by decide +kernel
theorem dX7_takesNode_5 : decode cX7_takesNode 5 = .ok (.invokestatic 45, 3) := by decide +kernel
theorem dX7_takesNode_8 : decode cX7_takesNode 8 = .ok (.istore 4, 2) := by decide +kernel
theorem dX7_takesNode_10 : decode cX7_takesNode 10 = .ok (.aload_n 0, 1) := by decide +kernel
theorem dX7_takesNode_11 : decode cX7_takesNode 11 = .ok (.iload_n 2, 1) := by decide +kernel
theorem dX7_takesNode_12 : decode cX7_takesNode 12 = .ok (.iload_n 1, 1) := by decide +kernel
theorem dX7_takesNode_13 : decode cX7_takesNode 13 = .ok (.bipush 48, 2) := by decide +kernel
theorem dX7_takesNode_15 : decode cX7_takesNode 15 = .ok (.isub, 1) := by decide +kernel
theorem dX7_takesNode_16 : decode cX7_takesNode 16 = .ok (.invokevirtual 172, 3) := by decide +kernel
theorem dX7_takesNode_19 : decode cX7_takesNode 19 = .ok (.aload_n 0, 1) := by decide +kernel
theorem dX7_takesNode_20 : decode cX7_takesNode 20 = .ok (.iload 4, 2) := by decide +kernel
theorem dX7_takesNode_22 : decode cX7_takesNode 22 = .ok (.ifCond .eq 7, 3) := by decide +kernel
theorem dX7_takesNode_25 : decode cX7_takesNode 25 = .ok (.iload_n 3, 1) := by decide +kernel
theorem dX7_takesNode_26 : decode cX7_takesNode 26 = .ok (.goto 7, 3) := by decide +kernel
theorem dX7_takesNode_29 : decode cX7_takesNode 29 = .ok (.aload_n 0, 1) := by decide +kernel
theorem dX7_takesNode_30 : decode cX7_takesNode 30 = .ok (.getfield 185, 3) := by decide +kernel
theorem dX7_takesNode_33 : decode cX7_takesNode 33 = .ok (.putfield 185, 3) := by decide +kernel
theorem dX7_takesNode_36 : decode cX7_takesNode 36 = .ok (.iload 4, 2) := by decide +kernel
theorem dX7_takesNode_38 : decode cX7_takesNode 38 = .ok (.ireturn, 1) := by decide +kernel
theorem dX7_takesLast_0 : decode cX7_takesLast 0 = .ok (.aload_n 0, 1) := by decide +kernel
theorem dX7_takesLast_1 : decode cX7_takesLast 1 = .ok (.getfield 38, 3) := by decide +kernel
theorem dX7_takesLast_4 : decode cX7_takesLast 4 = .ok (.iconst 4, 1) := by decide +kernel
theorem dX7_takesLast_5 : decode cX7_takesLast 5 = .ok (.aload_n 0, 1) := by decide +kernel
theorem dX7_takesLast_6 : decode cX7_takesLast 6 = .ok (.getfield 169, 3) := by decide +kernel
theorem dX7_takesLast_9 : decode cX7_takesLast 9 = .ok (.imul, 1) := by decide +kernel
theorem dX7_takesLast_10 : decode cX7_takesLast 10 = .ok (.iaload, 1) := by decide +kernel
theorem dX7_takesLast_11 : decode cX7_takesLast 11 = .ok (.ifCond .ne 14, 3) := by decide +kernel
theorem dX7_takesLast_14 : decode cX7_takesLast 14 = .ok (.iload_n 1, 1) := by decide +kernel
theorem dX7_takesLast_15 : decode cX7_takesLast 15 = .ok (.bipush 49, 2) := by decide +kernel
theorem dX7_takesLast_17 : decode cX7_takesLast 17 = .ok (.bipush 52, 2) := by decide +kernel
theorem dX7_takesLast_19 : decode cX7_takesLast 19 = .ok (.invokestatic 45, 3) := by decide +kernel
theorem dX7_takesLast_22 : decode cX7_takesLast 22 = .ok (.goto 11, 3) := by decide +kernel
theorem dX7_takesLast_25 : decode cX7_takesLast 25 = .ok (.iload_n 1, 1) := by decide +kernel
theorem dX7_takesLast_26 : decode cX7_takesLast 26 = .ok (.bipush 48, 2) := by decide +kernel
theorem dX7_takesLast_28 : decode cX7_takesLast 28 = .ok (.bipush 54, 2) := by decide +kernel
theorem dX7_takesLast_30 : decode cX7_takesLast 30 = .ok (.invokestatic 45, 3) := by decide +kernel
theorem dX7_takesLast_33 : decode cX7_takesLast 33 = .ok (.istore_n 2, 1) := by decide +kernel
theorem dX7_takesLast_34 : decode cX7_takesLast 34 = .ok (.aload_n 0, 1) := by decide +kernel
theorem dX7_takesLast_35 : decode cX7_takesLast 35 = .ok (.iconst 3, 1) := by decide +kernel
theorem dX7_takesLast_36 : decode cX7_takesLast 36 = .ok (.iload_n 1, 1) := by decide +kernel
theorem dX7_takesLast_37 : decode cX7_takesLast 37 = .ok (.bipush 48, 2) := by decide +kernel
theorem dX7_takesLast_39 : decode cX7_takesLast 39 = .ok (.isub, 1) := by decide +kernel
theorem dX7_takesLast_40 : decode cX7_takesLast 40 = .ok (.invokevirtual 172, 3) := by decide +kernel
theorem dX7_takesLast_43 : decode cX7_takesLast 43 = .ok (.aload_n 0, 1) := by decide +kernel
theorem dX7_takesLast_44 : decode cX7_takesLast 44 = .ok (.iload_n 2, 1) := by decide +kernel
theorem dX7_takesLast_45 : decode cX7_takesLast 45 = .ok (.ifCond .eq 8, 3) := by decide +kernel
theorem dX7_takesLast_48 : decode cX7_takesLast 48 = .ok (.bipush 8, 2) := by decide +kernel
theorem dX7_takesLast_50 : decode cX7_takesLast 50 = .ok (.goto 7, 3) := by decide +kernel
theorem dX7_takesLast_53 : decode cX7_takesLast 53 = .ok (.aload_n 0, 1) := by decide +kernel
theorem dX7_takesLast_54 : decode cX7_takesLast 54 = .ok (.getfield 185, 3) := by decide +kernel
theorem dX7_takesLast_57 : decode cX7_takesLast 57 = .ok (.putfield 185, 3) := by decide +kernel
theorem dX7_takesLast_60 : decode cX7_takesLast 60 = .ok (.iload_n 2, 1) := by decide +kernel
theorem dX7_takesLast_61 : decode cX7_takesLast 61 = .ok (.ireturn, 1) := by decide +kernel
theorem dX7_takesValue_0 : decode cX7_takesValue 0 = .ok (.iload_n 1, 1) := by decide +kernel
theorem dX7_takesValue_1 : decode cX7_takesValue 1 = .ok (.bipush 45, 2) := by decide +kernel
theorem dX7_takesValue_3 : decode cX7_takesValue 3 = .ok (.if_icmp .ne 24, 3) := by decide +kernel
theorem dX7_takesValue_6 : decode cX7_takesValue 6 = .ok (.aload_n 0, 1) := by decide +kernel
theorem dX7_takesValue_7 : decode cX7_takesValue 7 = .ok (.getfield 185, 3) := by decide +kernel
theorem dX7_takesValue_10 : decode cX7_takesValue 10 = .ok (.iconst 5, 1) := by decide +kernel
theorem dX7_takesValue_11 : decode cX7_takesValue 11 = .ok (.if_icmp .ne 16, 3) := by decide +kernel
theorem dX7_takesValue_14 : decode cX7_takesValue 14 = .ok (.aload_n 0, 1) := by decide +kernel
theorem dX7_takesValue_15 : decode cX7_takesValue 15 = .ok (.iconst 1, 1) := by decide +kernel
theorem dX7_takesValue_16 : decode cX7_takesValue 16 = .ok (.putfield 175, 3) := by decide +kernel
theorem dX7_takesValue_19 : decode cX7_takesValue 19 = .ok (.aload_n 0, 1) := by decide +kernel
theorem dX7_takesValue_20 : decode cX7_takesValue 20 = .ok (.bipush 6, 2) := by decide +kernel
theorem dX7_takesValue_22 : decode cX7_takesValue 22 = .ok (.putfield 185, 3) := by decide +kernel
theorem dX7_takesValue_25 : decode cX7_takesValue 25 = .ok (.iconst 1, 1) := by decide +kernel
theorem dX7_takesValue_26 : decode cX7_takesValue 26 = .ok (.ireturn, 1) := by decide +kernel
theorem dX7_takesValue_27 : decode cX7_takesValue 27 = .ok (.iload_n 1, 1) := by decide +kernel
theorem dX7_takesValue_28 : decode cX7_takesValue 28 = .ok (.bipush 48, 2) := by decide +kernel
theorem dX7_takesValue_30 : decode cX7_takesValue 30 = .ok (.bipush 57, 2) := by decide +kernel
theorem dX7_takesValue_32 : decode cX7_takesValue 32 = .ok (.invokestatic 45, 3) := by decide +kernel
theorem dX7_takesValue_35 : decode cX7_takesValue 35 = .ok (.ifCond .eq 47, 3) := by decide +kernel
theorem dX7_takesValue_38 : decode cX7_takesValue 38 = .ok (.aload_n 0, 1) := by decide +kernel
theorem dX7_takesValue_39 : decode cX7_takesValue 39 = .ok (.getfield 179, 3) := by decide +kernel
theorem dX7_takesValue_42 : decode cX7_takesValue 42 = .ok (.ifCond .eq 10, 3) := by decide +kernel
theorem dX7_takesValue_45 : decode cX7_takesValue 45 = .ok (.aload_n 0, 1) := by decide +kernel
theorem dX7_takesValue_46 : decode cX7_takesValue 46 = .ok (.getfield 182, 3) := by decide +kernel
theorem dX7_takesValue_49 : decode cX7_takesValue 49 = .ok (.ifCond .le 33, 3) := by decide +kernel
theorem dX7_takesValue_52 : decode cX7_takesValue 52 = .ok (.aload_n 0, 1) := by decide +kernel
theorem dX7_takesValue_53 : decode cX7_takesValue 53 = .ok (.getfield 179, 3) := by decide +kernel
theorem dX7_takesValue_56 : decode cX7_takesValue 56 = .ok (.iconst 3, 1) := by decide +kernel
theorem dX7_takesValue_57 : decode cX7_takesValue 57 = .ok (.if_icmp .ge 25, 3) := by decide +kernel
theorem dX7_takesValue_60 : decode cX7_takesValue 60 = .ok (.bipush 10, 2) := by decide +kernel
theorem dX7_takesValue_62 : decode cX7_takesValue 62 = .ok (.aload_n 0, 1) := by decide +kernel
theorem dX7_takesValue_63 : decode cX7_takesValue 63 = .ok (.getfield 182, 3) := by decide +kernel
theorem dX7_takesValue_66 : decode cX7_takesValue 66 = .ok (.imul, 1) := by decide +kernel
theorem dX7_takesValue_67 : decode cX7_takesValue 67 = .ok (.iload_n 1, 1) := by decide +kernel
theorem dX7_takesValue_68 : decode cX7_takesValue 68 = .ok (.iadd, 1) := by decide +kernel
theorem dX7_takesValue_69 : decode cX7_takesValue 69 = .ok (.bipush 48, 2) := by decide +kernel
theorem dX7_takesValue_71 : decode cX7_takesValue 71 = .ok (.isub, 1) := by decide +kernel
theorem dX7_takesValue_72 : decode cX7_takesValue 72 = .ok (.sipush 200, 3) := by decide +kernel
theorem dX7_takesValue_75 : decode cX7_takesValue 75 = .ok (.if_icmp .gt 7, 3) := by decide +kernel
theorem dX7_takesValue_78 : decode cX7_takesValue 78 = .ok (.iconst 1, 1) := by decide +kernel
theorem dX7_takesValue_79 : decode cX7_takesValue 79 = .ok (.goto 4, 3) := by decide +kernel
theorem dX7_takesValue_82 : decode cX7_takesValue 82 = .ok (.iconst 0, 1) := by decide +kernel
theorem dX7_takesValue_83 : decode cX7_takesValue 83 = .ok (.istore_n 2, 1) := by decide +kernel
theorem dX7_takesValue_84 : decode cX7_takesValue 84 = .ok (.iload_n 2, 1) := by decide +kernel
theorem dX7_takesValue_85 : decode cX7_takesValue 85 = .ok (.ifCond .eq 59, 3) := by decide +kernel
theorem dX7_takesValue_88 : decode cX7_takesValue 88 = .ok (.aload_n 0, 1) := by decide +kernel
theorem dX7_takesValue_89 : decode cX7_takesValue 89 = .ok (.bipush 10, 2) := by decide +kernel
theorem dX7_takesValue_91 : decode cX7_takesValue 91 = .ok (.aload_n 0, 1) := by decide +kernel
theorem dX7_takesValue_92 : decode cX7_takesValue 92 = .ok (.getfield 182, 3) := by decide +kernel
theorem dX7_takesValue_95 : decode cX7_takesValue 95 = .ok (.imul, 1) := by decide +kernel
theorem dX7_takesValue_96 : decode cX7_takesValue 96 = .ok (.iload_n 1, 1) := by decide +kernel
theorem dX7_takesValue_97 : decode cX7_takesValue 97 = .ok (.iadd, 1) := by decide +kernel
theorem dX7_takesValue_98 : decode cX7_takesValue 98 = .ok (.bipush 48, 2) := by decide +kernel
theorem dX7_takesValue_100 : decode cX7_takesValue 100 = .ok (.isub, 1) := by decide +kernel
theorem dX7_takesValue_101 : decode cX7_takesValue 101 = .ok (.putfield 182, 3) := by decide +kernel
theorem dX7_takesValue_104 : decode cX7_takesValue 104 = .ok (.aload_n 0, 1) := by decide +kernel
theorem dX7_takesValue_105 : decode cX7_takesValue 105 = .ok (.dup, 1) := by decide +kernel
theorem dX7_takesValue_106 : decode cX7_takesValue 106 = .ok (.getfield 179, 3) := by decide +kernel
theorem dX7_takesValue_109 : decode cX7_takesValue 109 = .ok (.iconst 1, 1) := by decide +kernel
theorem dX7_takesValue_110 : decode cX7_takesValue 110 = .ok (.iadd, 1) := by decide +kernel
theorem dX7_takesValue_111 : decode cX7_takesValue 111 = .ok (.putfield 179, 3) := by decide +kernel
theorem dX7_takesValue_114 : decode cX7_takesValue 114 = .ok (.aload_n 0, 1) := by decide +kernel
theorem dX7_takesValue_115 : decode cX7_takesValue 115 = .ok (.iconst 3, 1) := by decide +kernel
theorem dX7_takesValue_116 : decode cX7_takesValue 116 = .ok (.aload_n 0, 1) := by decide +kernel
theorem dX7_takesValue_117 : decode cX7_takesValue 117 = .ok (.getfield 175, 3) := by decide +kernel
theorem dX7_takesValue_120 : decode cX7_takesValue 120 = .ok (.ifCond .eq 11, 3) := by decide +kernel
theorem dX7_takesValue_123 : decode cX7_takesValue 123 = .ok (.aload_n 0, 1) := by decide +kernel
theorem dX7_takesValue_124 : decode cX7_takesValue 124 = .ok (.getfield 182, 3) := by decide +kernel
theorem dX7_takesValue_127 : decode cX7_takesValue 127 = .ok (.ineg, 1) := by decide +kernel
theorem dX7_takesValue_128 : decode cX7_takesValue 128 = .ok (.goto 7, 3) := by decide +kernel
theorem dX7_takesValue_131 : decode cX7_takesValue 131 = .ok (.aload_n 0, 1) := by decide +kernel
theorem dX7_takesValue_132 : decode cX7_takesValue 132 = .ok (.getfield 182, 3) := by decide +kernel
theorem dX7_takesValue_135 : decode cX7_takesValue 135 = .ok (.invokevirtual 172, 3) := by decide +kernel
theorem dX7_takesValue_138 : decode cX7_takesValue 138 = .ok (.aload_n 0, 1) := by decide +kernel
theorem dX7_takesValue_139 : decode cX7_takesValue 139 = .ok (.bipush 7, 2) := by decide +kernel
theorem dX7_takesValue_141 : decode cX7_takesValue 141 = .ok (.putfield 185, 3) := by decide +kernel
theorem dX7_takesValue_144 : decode cX7_takesValue 144 = .ok (.iload_n 2, 1) := by decide +kernel
theorem dX7_takesValue_145 : decode cX7_takesValue 145 = .ok (.ireturn, 1) := by decide +kernel
theorem dX7_isOver_0 : decode cX7_isOver 0 = .ok (.aload_n 0, 1) := by decide +kernel
theorem dX7_isOver_1 : decode cX7_isOver 1 = .ok (.getfield 185, 3) := by decide +kernel
theorem dX7_isOver_4 : decode cX7_isOver 4 = .ok (.bipush 7, 2) := by decide +kernel
theorem dX7_isOver_6 : decode cX7_isOver 6 = .ok (.if_icmp .eq 12, 3) := by decide +kernel
theorem dX7_isOver_9 : decode cX7_isOver 9 = .ok (.aload_n 0, 1) := by decide +kernel
theorem dX7_isOver_10 : decode cX7_isOver 10 = .ok (.getfield 185, 3) := by decide +kernel
theorem dX7_isOver_13 : decode cX7_isOver 13 = .ok (.bipush 8, 2) := by decide +kernel
theorem dX7_isOver_15 : decode cX7_isOver 15 = .ok (.if_icmp .ne 7, 3) := by decide +kernel
theorem dX7_isOver_18 : decode cX7_isOver 18 = .ok (.iconst 1, 1) := by decide +kernel
theorem dX7_isOver_19 : decode cX7_isOver 19 = .ok (.goto 4, 3) := by decide +kernel
theorem dX7_isOver_22 : decode cX7_isOver 22 = .ok (.iconst 0, 1) := by decide +kernel
theorem dX7_isOver_23 : decode cX7_isOver 23 = .ok (.ireturn, 1) := by decide +kernel
theorem dX7_takes_0 : decode cX7_takes 0 = .ok (.iload_n 1, 1) := by decide +kernel
theorem dX7_takes_1 : decode cX7_takes 1 = .ok (.bipush 59, 2) := by decide +kernel
theorem dX7_takes_3 : decode cX7_takes 3 = .ok (.if_icmp .ne 27, 3) := by decide +kernel
theorem dX7_takes_6 : decode cX7_takes 6 = .ok (.aload_n 0, 1) := by decide +kernel
theorem dX7_takes_7 : decode cX7_takes 7 = .ok (.invokevirtual 188, 3) := by decide +kernel
theorem dX7_takes_10 : decode cX7_takes 10 = .ok (.ifCond .eq 20, 3) := by decide +kernel
theorem dX7_takes_13 : decode cX7_takes 13 = .ok (.aload_n 0, 1) := by decide +kernel
theorem dX7_takes_14 : decode cX7_takes 14 = .ok (.dup, 1) := by decide +kernel
theorem dX7_takes_15 : decode cX7_takes 15 = .ok (.getfield 169, 3) := by decide +kernel
theorem dX7_takes_18 : decode cX7_takes 18 = .ok (.iconst 1, 1) := by decide +kernel
theorem dX7_takes_19 : decode cX7_takes 19 = .ok (.iadd, 1) := by decide +kernel
theorem dX7_takes_20 : decode cX7_takes 20 = .ok (.putfield 169, 3) := by decide +kernel
theorem dX7_takes_23 : decode cX7_takes 23 = .ok (.aload_n 0, 1) := by decide +kernel
theorem dX7_takes_24 : decode cX7_takes 24 = .ok (.iconst 0, 1) := by decide +kernel
theorem dX7_takes_25 : decode cX7_takes 25 = .ok (.putfield 185, 3) := by decide +kernel
theorem dX7_takes_28 : decode cX7_takes 28 = .ok (.iconst 1, 1) := by decide +kernel
theorem dX7_takes_29 : decode cX7_takes 29 = .ok (.ireturn, 1) := by decide +kernel
theorem dX7_takes_30 : decode cX7_takes 30 = .ok (.aload_n 0, 1) := by decide +kernel
theorem dX7_takes_31 : decode cX7_takes 31 = .ok (.getfield 185, 3) := by decide +kernel
theorem dX7_takes_34 : decode cX7_takes 34 = .ok (.tableswitch 88 0 8 #[50, 56, 64, 72, 78, 88, 88, 88, 86], 50) := by decide +kernel
theorem dX7_takes_84 : decode cX7_takes 84 = .ok (.aload_n 0, 1) := by decide +kernel
theorem dX7_takes_85 : decode cX7_takes 85 = .ok (.iload_n 1, 1) := by decide +kernel
theorem dX7_takes_86 : decode cX7_takes 86 = .ok (.invokevirtual 192, 3) := by decide +kernel
theorem dX7_takes_89 : decode cX7_takes 89 = .ok (.ireturn, 1) := by decide +kernel
theorem dX7_takes_90 : decode cX7_takes 90 = .ok (.aload_n 0, 1) := by decide +kernel
theorem dX7_takes_91 : decode cX7_takes 91 = .ok (.iload_n 1, 1) := by decide +kernel
theorem dX7_takes_92 : decode cX7_takes 92 = .ok (.iconst 1, 1) := by decide +kernel
theorem dX7_takes_93 : decode cX7_takes 93 = .ok (.iconst 2, 1) := by decide +kernel
theorem dX7_takes_94 : decode cX7_takes 94 = .ok (.invokevirtual 195, 3) := by decide +kernel
theorem dX7_takes_97 : decode cX7_takes 97 = .ok (.ireturn, 1) := by decide +kernel
theorem dX7_takes_98 : decode cX7_takes 98 = .ok (.aload_n 0, 1) := by decide +kernel
theorem dX7_takes_99 : decode cX7_takes 99 = .ok (.iload_n 1, 1) := by decide +kernel
theorem dX7_takes_100 : decode cX7_takes 100 = .ok (.iconst 2, 1) := by decide +kernel
theorem dX7_takes_101 : decode cX7_takes 101 = .ok (.iconst 3, 1) := by decide +kernel
theorem dX7_takes_102 : decode cX7_takes 102 = .ok (.invokevirtual 195, 3) := by decide +kernel
theorem dX7_takes_105 : decode cX7_takes 105 = .ok (.ireturn, 1) := by decide +kernel
theorem dX7_takes_106 : decode cX7_takes 106 = .ok (.aload_n 0, 1) := by decide +kernel
theorem dX7_takes_107 : decode cX7_takes 107 = .ok (.iload_n 1, 1) := by decide +kernel
theorem dX7_takes_108 : decode cX7_takes 108 = .ok (.invokevirtual 198, 3) := by decide +kernel
theorem dX7_takes_111 : decode cX7_takes 111 = .ok (.ireturn, 1) := by decide +kernel
theorem dX7_takes_112 : decode cX7_takes 112 = .ok (.aload_n 0, 1) := by decide +kernel
theorem dX7_takes_113 : decode cX7_takes 113 = .ok (.iload_n 1, 1) := by decide +kernel
theorem dX7_takes_114 : decode cX7_takes 114 = .ok (.iconst 1, 1) := by decide +kernel
theorem dX7_takes_115 : decode cX7_takes 115 = .ok (.iconst 5, 1) := by decide +kernel
theorem dX7_takes_116 : decode cX7_takes 116 = .ok (.invokevirtual 195, 3) := by decide +kernel
theorem dX7_takes_119 : decode cX7_takes 119 = .ok (.ireturn, 1) := by decide +kernel
theorem dX7_takes_120 : decode cX7_takes 120 = .ok (.iconst 0, 1) := by decide +kernel
theorem dX7_takes_121 : decode cX7_takes 121 = .ok (.ireturn, 1) := by decide +kernel
theorem dX7_takes_122 : decode cX7_takes 122 = .ok (.aload_n 0, 1) := by decide +kernel
theorem dX7_takes_123 : decode cX7_takes 123 = .ok (.iload_n 1, 1) := by decide +kernel
theorem dX7_takes_124 : decode cX7_takes 124 = .ok (.invokevirtual 201, 3) := by decide +kernel
theorem dX7_takes_127 : decode cX7_takes 127 = .ok (.ireturn, 1) := by decide +kernel
theorem dX7_rightLength_0 : decode cX7_rightLength 0 = .ok (.aload_n 0, 1) := by decide +kernel
theorem dX7_rightLength_1 : decode cX7_rightLength 1 = .ok (.iconst 0, 1) := by decide +kernel
theorem dX7_rightLength_2 : decode cX7_rightLength 2 = .ok (.putfield 169, 3) := by decide +kernel
theorem dX7_rightLength_5 : decode cX7_rightLength 5 = .ok (.aload_n 0, 1) := by decide +kernel
theorem dX7_rightLength_6 : decode cX7_rightLength 6 = .ok (.iconst 0, 1) := by decide +kernel
theorem dX7_rightLength_7 : decode cX7_rightLength 7 = .ok (.putfield 185, 3) := by decide +kernel
theorem dX7_rightLength_10 : decode cX7_rightLength 10 = .ok (.iconst 0, 1) := by decide +kernel
theorem dX7_rightLength_11 : decode cX7_rightLength 11 = .ok (.istore_n 1, 1) := by decide +kernel
theorem dX7_rightLength_12 : decode cX7_rightLength 12 = .ok (.iload_n 1, 1) := by decide +kernel
theorem dX7_rightLength_13 : decode cX7_rightLength 13 = .ok (.aload_n 0, 1) := by decide +kernel
theorem dX7_rightLength_14 : decode cX7_rightLength 14 = .ok (.getfield 166, 3) := by decide +kernel
theorem dX7_rightLength_17 : decode cX7_rightLength 17 = .ok (.if_icmp .ge 22, 3) := by decide +kernel
theorem dX7_rightLength_20 : decode cX7_rightLength 20 = .ok (.aload_n 0, 1) := by decide +kernel
theorem dX7_rightLength_21 : decode cX7_rightLength 21 = .ok (.aload_n 0, 1) := by decide +kernel
theorem dX7_rightLength_22 : decode cX7_rightLength 22 = .ok (.getfield 22, 3) := by decide +kernel
theorem dX7_rightLength_25 : decode cX7_rightLength 25 = .ok (.iload_n 1, 1) := by decide +kernel
theorem dX7_rightLength_26 : decode cX7_rightLength 26 = .ok (.iaload, 1) := by decide +kernel
theorem dX7_rightLength_27 : decode cX7_rightLength 27 = .ok (.invokevirtual 204, 3) := by decide +kernel
theorem dX7_rightLength_30 : decode cX7_rightLength 30 = .ok (.ifCond .eq 9, 3) := by decide +kernel
theorem dX7_rightLength_33 : decode cX7_rightLength 33 = .ok (.iinc 1 1, 3) := by decide +kernel
theorem dX7_rightLength_36 : decode cX7_rightLength 36 = .ok (.goto (-24), 3) := by decide +kernel
theorem dX7_rightLength_39 : decode cX7_rightLength 39 = .ok (.iload_n 1, 1) := by decide +kernel
theorem dX7_rightLength_40 : decode cX7_rightLength 40 = .ok (.ireturn, 1) := by decide +kernel
theorem dX7_firstError_0 : decode cX7_firstError 0 = .ok (.aload_n 0, 1) := by decide +kernel
theorem dX7_firstError_1 : decode cX7_firstError 1 = .ok (.iconst 0, 1) := by decide +kernel
theorem dX7_firstError_2 : decode cX7_firstError 2 = .ok (.putfield 41, 3) := by decide +kernel
theorem dX7_firstError_5 : decode cX7_firstError 5 = .ok (.aload_n 0, 1) := by decide +kernel
theorem dX7_firstError_6 : decode cX7_firstError 6 = .ok (.invokevirtual 207, 3) := by decide +kernel
theorem dX7_firstError_9 : decode cX7_firstError 9 = .ok (.ireturn, 1) := by decide +kernel
theorem dX7_canBe_0 : decode cX7_canBe 0 = .ok (.aload_n 0, 1) := by decide +kernel
theorem dX7_canBe_1 : decode cX7_canBe 1 = .ok (.getfield 38, 3) := by decide +kernel
theorem dX7_canBe_4 : decode cX7_canBe 4 = .ok (.iconst 4, 1) := by decide +kernel
theorem dX7_canBe_5 : decode cX7_canBe 5 = .ok (.iload_n 1, 1) := by decide +kernel
theorem dX7_canBe_6 : decode cX7_canBe 6 = .ok (.imul, 1) := by decide +kernel
theorem dX7_canBe_7 : decode cX7_canBe 7 = .ok (.iaload, 1) := by decide +kernel
theorem dX7_canBe_8 : decode cX7_canBe 8 = .ok (.istore_n 2, 1) := by decide +kernel
theorem dX7_canBe_9 : decode cX7_canBe 9 = .ok (.aload_n 0, 1) := by decide +kernel
theorem dX7_canBe_10 : decode cX7_canBe 10 = .ok (.getfield 38, 3) := by decide +kernel
theorem dX7_canBe_13 : decode cX7_canBe 13 = .ok (.iconst 4, 1) := by decide +kernel
theorem dX7_canBe_14 : decode cX7_canBe 14 = .ok (.iload_n 1, 1) := by decide +kernel
theorem dX7_canBe_15 : decode cX7_canBe 15 = .ok (.imul, 1) := by decide +kernel
theorem dX7_canBe_16 : decode cX7_canBe 16 = .ok (.iconst 1, 1) := by decide +kernel
theorem dX7_canBe_17 : decode cX7_canBe 17 = .ok (.iadd, 1) := by decide +kernel
theorem dX7_canBe_18 : decode cX7_canBe 18 = .ok (.iaload, 1) := by decide +kernel
theorem dX7_canBe_19 : decode cX7_canBe 19 = .ok (.istore_n 3, 1) := by decide +kernel
theorem dX7_canBe_20 : decode cX7_canBe 20 = .ok (.aload_n 0, 1) := by decide +kernel
theorem dX7_canBe_21 : decode cX7_canBe 21 = .ok (.getfield 38, 3) := by decide +kernel
theorem dX7_canBe_24 : decode cX7_canBe 24 = .ok (.iconst 4, 1) := by decide +kernel
theorem dX7_canBe_25 : decode cX7_canBe 25 = .ok (.iload_n 1, 1) := by decide +kernel
theorem dX7_canBe_26 : decode cX7_canBe 26 = .ok (.imul, 1) := by decide +kernel
theorem dX7_canBe_27 : decode cX7_canBe 27 = .ok (.iconst 2, 1) := by decide +kernel
theorem dX7_canBe_28 : decode cX7_canBe 28 = .ok (.iadd, 1) := by decide +kernel
theorem dX7_canBe_29 : decode cX7_canBe 29 = .ok (.iaload, 1) := by decide +kernel
theorem dX7_canBe_30 : decode cX7_canBe 30 = .ok (.istore 4, 2) := by decide +kernel
theorem dX7_canBe_32 : decode cX7_canBe 32 = .ok (.aload_n 0, 1) := by decide +kernel
theorem dX7_canBe_33 : decode cX7_canBe 33 = .ok (.getfield 38, 3) := by decide +kernel
theorem dX7_canBe_36 : decode cX7_canBe 36 = .ok (.iconst 4, 1) := by decide +kernel
theorem dX7_canBe_37 : decode cX7_canBe 37 = .ok (.iload_n 1, 1) := by decide +kernel
theorem dX7_canBe_38 : decode cX7_canBe 38 = .ok (.imul, 1) := by decide +kernel
theorem dX7_canBe_39 : decode cX7_canBe 39 = .ok (.iconst 3, 1) := by decide +kernel
theorem dX7_canBe_40 : decode cX7_canBe 40 = .ok (.iadd, 1) := by decide +kernel
theorem dX7_canBe_41 : decode cX7_canBe 41 = .ok (.iaload, 1) := by decide +kernel
theorem dX7_canBe_42 : decode cX7_canBe 42 = .ok (.istore 5, 2) := by decide +kernel
theorem dX7_canBe_44 : decode cX7_canBe 44 = .ok (.iload_n 2, 1) := by decide +kernel
theorem dX7_canBe_45 : decode cX7_canBe 45 = .ok (.iconst 1, 1) := by decide +kernel
theorem dX7_canBe_46 : decode cX7_canBe 46 = .ok (.if_icmp .ne 13, 3) := by decide +kernel
theorem dX7_canBe_49 : decode cX7_canBe 49 = .ok (.iload_n 3, 1) := by decide +kernel
theorem dX7_canBe_50 : decode cX7_canBe 50 = .ok (.ifCond .eq 7, 3) := by decide +kernel
theorem dX7_canBe_53 : decode cX7_canBe 53 = .ok (.iconst 1, 1) := by decide +kernel
theorem dX7_canBe_54 : decode cX7_canBe 54 = .ok (.goto 4, 3) := by decide +kernel
theorem dX7_canBe_57 : decode cX7_canBe 57 = .ok (.iconst 0, 1) := by decide +kernel
theorem dX7_canBe_58 : decode cX7_canBe 58 = .ok (.ireturn, 1) := by decide +kernel
theorem dX7_canBe_59 : decode cX7_canBe 59 = .ok (.iload_n 3, 1) := by decide +kernel
theorem dX7_canBe_60 : decode cX7_canBe 60 = .ok (.iload 4, 2) := by decide +kernel
theorem dX7_canBe_62 : decode cX7_canBe 62 = .ok (.if_icmp .eq 29, 3) := by decide +kernel
theorem dX7_canBe_65 : decode cX7_canBe 65 = .ok (.iload_n 2, 1) := by decide +kernel
theorem dX7_canBe_66 : decode cX7_canBe 66 = .ok (.ifCond .eq 21, 3) := by decide +kernel
theorem dX7_canBe_69 : decode cX7_canBe 69 = .ok (.iload 5, 2) := by decide +kernel
theorem dX7_canBe_71 : decode cX7_canBe 71 = .ok (.ifCond .eq 20, 3) := by decide +kernel
theorem dX7_canBe_74 : decode cX7_canBe 74 = .ok (.iload 5, 2) := by decide +kernel
end
section
theorem dX7_canBe_76 : decode cX7_canBe 76 = .ok (.iload_n 3, 1) := by decide +kernel
theorem dX7_canBe_77 : decode cX7_canBe 77 = .ok (.if_icmp .eq 14, 3) := by decide +kernel
theorem dX7_canBe_80 : decode cX7_canBe 80 = .ok (.iload 5, 2) := by decide +kernel
theorem dX7_canBe_82 : decode cX7_canBe 82 = .ok (.iload 4, 2) := by decide +kernel
theorem dX7_canBe_84 : decode cX7_canBe 84 = .ok (.if_icmp .eq 7, 3) := by decide +kernel
theorem dX7_canBe_87 : decode cX7_canBe 87 = .ok (.iconst 1, 1) := by decide +kernel
theorem dX7_canBe_88 : decode cX7_canBe 88 = .ok (.goto 4, 3) := by decide +kernel
theorem dX7_canBe_91 : decode cX7_canBe 91 = .ok (.iconst 0, 1) := by decide +kernel
theorem dX7_canBe_92 : decode cX7_canBe 92 = .ok (.ireturn, 1) := by decide +kernel
theorem dX7_fits_0 : decode cX7_fits 0 = .ok (.aload_n 0, 1) := by decide +kernel
theorem dX7_fits_1 : decode cX7_fits 1 = .ok (.getfield 7, 3) := by decide +kernel
theorem dX7_fits_4 : decode cX7_fits 4 = .ok (.bipush 48, 2) := by decide +kernel
theorem dX7_fits_6 : decode cX7_fits 6 = .ok (.iaload, 1) := by decide +kernel
theorem dX7_fits_7 : decode cX7_fits 7 = .ok (.aload_n 0, 1) := by decide +kernel
theorem dX7_fits_8 : decode cX7_fits 8 = .ok (.getfield 169, 3) := by decide +kernel
theorem dX7_fits_11 : decode cX7_fits 11 = .ok (.iadd, 1) := by decide +kernel
theorem dX7_fits_12 : decode cX7_fits 12 = .ok (.bipush 12, 2) := by decide +kernel
theorem dX7_fits_14 : decode cX7_fits 14 = .ok (.if_icmp .gt 7, 3) := by decide +kernel
theorem dX7_fits_17 : decode cX7_fits 17 = .ok (.iconst 1, 1) := by decide +kernel
theorem dX7_fits_18 : decode cX7_fits 18 = .ok (.goto 4, 3) := by decide +kernel
theorem dX7_fits_21 : decode cX7_fits 21 = .ok (.iconst 0, 1) := by decide +kernel
theorem dX7_fits_22 : decode cX7_fits 22 = .ok (.istore_n 1, 1) := by decide +kernel
theorem dX7_fits_23 : decode cX7_fits 23 = .ok (.iconst 0, 1) := by decide +kernel
theorem dX7_fits_24 : decode cX7_fits 24 = .ok (.istore_n 2, 1) := by decide +kernel
theorem dX7_fits_25 : decode cX7_fits 25 = .ok (.iload_n 2, 1) := by decide +kernel
theorem dX7_fits_26 : decode cX7_fits 26 = .ok (.aload_n 0, 1) := by decide +kernel
theorem dX7_fits_27 : decode cX7_fits 27 = .ok (.getfield 169, 3) := by decide +kernel
theorem dX7_fits_30 : decode cX7_fits 30 = .ok (.if_icmp .ge 147, 3) := by decide +kernel
theorem dX7_fits_33 : decode cX7_fits 33 = .ok (.iload_n 1, 1) := by decide +kernel
theorem dX7_fits_34 : decode cX7_fits 34 = .ok (.ifCond .eq 143, 3) := by decide +kernel
theorem dX7_fits_37 : decode cX7_fits 37 = .ok (.aload_n 0, 1) := by decide +kernel
theorem dX7_fits_38 : decode cX7_fits 38 = .ok (.getfield 38, 3) := by decide +kernel
theorem dX7_fits_41 : decode cX7_fits 41 = .ok (.iconst 4, 1) := by decide +kernel
theorem dX7_fits_42 : decode cX7_fits 42 = .ok (.iload_n 2, 1) := by decide +kernel
theorem dX7_fits_43 : decode cX7_fits 43 = .ok (.imul, 1) := by decide +kernel
theorem dX7_fits_44 : decode cX7_fits 44 = .ok (.iaload, 1) := by decide +kernel
theorem dX7_fits_45 : decode cX7_fits 45 = .ok (.iconst 1, 1) := by decide +kernel
theorem dX7_fits_46 : decode cX7_fits 46 = .ok (.if_icmp .ne 16, 3) := by decide +kernel
theorem dX7_fits_49 : decode cX7_fits 49 = .ok (.aload_n 0, 1) := by decide +kernel
theorem dX7_fits_50 : decode cX7_fits 50 = .ok (.getfield 38, 3) := by decide +kernel
theorem dX7_fits_53 : decode cX7_fits 53 = .ok (.iconst 4, 1) := by decide +kernel
theorem dX7_fits_54 : decode cX7_fits 54 = .ok (.iload_n 2, 1) := by decide +kernel
theorem dX7_fits_55 : decode cX7_fits 55 = .ok (.imul, 1) := by decide +kernel
theorem dX7_fits_56 : decode cX7_fits 56 = .ok (.iconst 1, 1) := by decide +kernel
theorem dX7_fits_57 : decode cX7_fits 57 = .ok (.iadd, 1) := by decide +kernel
theorem dX7_fits_58 : decode cX7_fits 58 = .ok (.iaload, 1) := by decide +kernel
theorem dX7_fits_59 : decode cX7_fits 59 = .ok (.goto 29, 3) := by decide +kernel
theorem dX7_fits_62 : decode cX7_fits 62 = .ok (.aload_n 0, 1) := by decide +kernel
theorem dX7_fits_63 : decode cX7_fits 63 = .ok (.getfield 38, 3) := by decide +kernel
theorem dX7_fits_66 : decode cX7_fits 66 = .ok (.iconst 4, 1) := by decide +kernel
theorem dX7_fits_67 : decode cX7_fits 67 = .ok (.iload_n 2, 1) := by decide +kernel
theorem dX7_fits_68 : decode cX7_fits 68 = .ok (.imul, 1) := by decide +kernel
theorem dX7_fits_69 : decode cX7_fits 69 = .ok (.iaload, 1) := by decide +kernel
theorem dX7_fits_70 : decode cX7_fits 70 = .ok (.iconst 2, 1) := by decide +kernel
theorem dX7_fits_71 : decode cX7_fits 71 = .ok (.if_icmp .ne 16, 3) := by decide +kernel
theorem dX7_fits_74 : decode cX7_fits 74 = .ok (.aload_n 0, 1) := by decide +kernel
theorem dX7_fits_75 : decode cX7_fits 75 = .ok (.getfield 38, 3) := by decide +kernel
theorem dX7_fits_78 : decode cX7_fits 78 = .ok (.iconst 4, 1) := by decide +kernel
theorem dX7_fits_79 : decode cX7_fits 79 = .ok (.iload_n 2, 1) := by decide +kernel
theorem dX7_fits_80 : decode cX7_fits 80 = .ok (.imul, 1) := by decide +kernel
theorem dX7_fits_81 : decode cX7_fits 81 = .ok (.iconst 3, 1) := by decide +kernel
theorem dX7_fits_82 : decode cX7_fits 82 = .ok (.iadd, 1) := by decide +kernel
theorem dX7_fits_83 : decode cX7_fits 83 = .ok (.iaload, 1) := by decide +kernel
theorem dX7_fits_84 : decode cX7_fits 84 = .ok (.goto 4, 3) := by decide +kernel
theorem dX7_fits_87 : decode cX7_fits 87 = .ok (.iconst (-1), 1) := by decide +kernel
theorem dX7_fits_88 : decode cX7_fits 88 = .ok (.istore_n 3, 1) := by decide +kernel
theorem dX7_fits_89 : decode cX7_fits 89 = .ok (.iload_n 3, 1) := by decide +kernel
theorem dX7_fits_90 : decode cX7_fits 90 = .ok (.iconst (-1), 1) := by decide +kernel
theorem dX7_fits_91 : decode cX7_fits 91 = .ok (.if_icmp .eq 20, 3) := by decide +kernel
theorem dX7_fits_94 : decode cX7_fits 94 = .ok (.aload_n 0, 1) := by decide +kernel
theorem dX7_fits_95 : decode cX7_fits 95 = .ok (.iload_n 3, 1) := by decide +kernel
theorem dX7_fits_96 : decode cX7_fits 96 = .ok (.invokevirtual 75, 3) := by decide +kernel
theorem dX7_fits_99 : decode cX7_fits 99 = .ok (.iconst (-1), 1) := by decide +kernel
theorem dX7_fits_100 : decode cX7_fits 100 = .ok (.if_icmp .ne 15, 3) := by decide +kernel
theorem dX7_fits_103 : decode cX7_fits 103 = .ok (.aload_n 0, 1) := by decide +kernel
theorem dX7_fits_104 : decode cX7_fits 104 = .ok (.iload_n 3, 1) := by decide +kernel
theorem dX7_fits_105 : decode cX7_fits 105 = .ok (.invokevirtual 103, 3) := by decide +kernel
theorem dX7_fits_108 : decode cX7_fits 108 = .ok (.ifCond .ne 7, 3) := by decide +kernel
theorem dX7_fits_111 : decode cX7_fits 111 = .ok (.iconst 1, 1) := by decide +kernel
theorem dX7_fits_112 : decode cX7_fits 112 = .ok (.goto 4, 3) := by decide +kernel
theorem dX7_fits_115 : decode cX7_fits 115 = .ok (.iconst 0, 1) := by decide +kernel
theorem dX7_fits_116 : decode cX7_fits 116 = .ok (.istore_n 1, 1) := by decide +kernel
theorem dX7_fits_117 : decode cX7_fits 117 = .ok (.iconst 0, 1) := by decide +kernel
theorem dX7_fits_118 : decode cX7_fits 118 = .ok (.istore 4, 2) := by decide +kernel
theorem dX7_fits_120 : decode cX7_fits 120 = .ok (.iload 4, 2) := by decide +kernel
theorem dX7_fits_122 : decode cX7_fits 122 = .ok (.iconst 4, 1) := by decide +kernel
theorem dX7_fits_123 : decode cX7_fits 123 = .ok (.if_icmp .ge 37, 3) := by decide +kernel
theorem dX7_fits_126 : decode cX7_fits 126 = .ok (.aload_n 0, 1) := by decide +kernel
theorem dX7_fits_127 : decode cX7_fits 127 = .ok (.getfield 7, 3) := by decide +kernel
theorem dX7_fits_130 : decode cX7_fits 130 = .ok (.iconst 4, 1) := by decide +kernel
theorem dX7_fits_131 : decode cX7_fits 131 = .ok (.aload_n 0, 1) := by decide +kernel
theorem dX7_fits_132 : decode cX7_fits 132 = .ok (.getfield 7, 3) := by decide +kernel
theorem dX7_fits_135 : decode cX7_fits 135 = .ok (.bipush 48, 2) := by decide +kernel
theorem dX7_fits_137 : decode cX7_fits 137 = .ok (.iaload, 1) := by decide +kernel
theorem dX7_fits_138 : decode cX7_fits 138 = .ok (.imul, 1) := by decide +kernel
theorem dX7_fits_139 : decode cX7_fits 139 = .ok (.iload 4, 2) := by decide +kernel
theorem dX7_fits_141 : decode cX7_fits 141 = .ok (.iadd, 1) := by decide +kernel
theorem dX7_fits_142 : decode cX7_fits 142 = .ok (.aload_n 0, 1) := by decide +kernel
theorem dX7_fits_143 : decode cX7_fits 143 = .ok (.getfield 38, 3) := by decide +kernel
theorem dX7_fits_146 : decode cX7_fits 146 = .ok (.iconst 4, 1) := by decide +kernel
theorem dX7_fits_147 : decode cX7_fits 147 = .ok (.iload_n 2, 1) := by decide +kernel
theorem dX7_fits_148 : decode cX7_fits 148 = .ok (.imul, 1) := by decide +kernel
theorem dX7_fits_149 : decode cX7_fits 149 = .ok (.iload 4, 2) := by decide +kernel
theorem dX7_fits_151 : decode cX7_fits 151 = .ok (.iadd, 1) := by decide +kernel
theorem dX7_fits_152 : decode cX7_fits 152 = .ok (.iaload, 1) := by decide +kernel
theorem dX7_fits_153 : decode cX7_fits 153 = .ok (.iastore, 1) := by decide +kernel
theorem dX7_fits_154 : decode cX7_fits 154 = .ok (.iinc 4 1, 3) := by decide +kernel
theorem dX7_fits_157 : decode cX7_fits 157 = .ok (.goto (-37), 3) := by decide +kernel
theorem dX7_fits_160 : decode cX7_fits 160 = .ok (.aload_n 0, 1) := by decide +kernel
theorem dX7_fits_161 : decode cX7_fits 161 = .ok (.getfield 7, 3) := by decide +kernel
theorem dX7_fits_164 : decode cX7_fits 164 = .ok (.bipush 48, 2) := by decide +kernel
theorem dX7_fits_166 : decode cX7_fits 166 = .ok (.dup2, 1) := by decide +kernel
theorem dX7_fits_167 : decode cX7_fits 167 = .ok (.iaload, 1) := by decide +kernel
theorem dX7_fits_168 : decode cX7_fits 168 = .ok (.iconst 1, 1) := by decide +kernel
theorem dX7_fits_169 : decode cX7_fits 169 = .ok (.iadd, 1) := by decide +kernel
theorem dX7_fits_170 : decode cX7_fits 170 = .ok (.iastore, 1) := by decide +kernel
theorem dX7_fits_171 : decode cX7_fits 171 = .ok (.iinc 2 1, 3) := by decide +kernel
theorem dX7_fits_174 : decode cX7_fits 174 = .ok (.goto (-149), 3) := by decide +kernel
theorem dX7_fits_177 : decode cX7_fits 177 = .ok (.iload_n 1, 1) := by decide +kernel
theorem dX7_fits_178 : decode cX7_fits 178 = .ok (.ifCond .eq 15, 3) := by decide +kernel
theorem dX7_fits_181 : decode cX7_fits 181 = .ok (.aload_n 0, 1) := by decide +kernel
theorem dX7_fits_182 : decode cX7_fits 182 = .ok (.invokevirtual 64, 3) := by decide +kernel
theorem dX7_fits_185 : decode cX7_fits 185 = .ok (.iconst 3, 1) := by decide +kernel
theorem dX7_fits_186 : decode cX7_fits 186 = .ok (.if_icmp .gt 7, 3) := by decide +kernel
theorem dX7_fits_189 : decode cX7_fits 189 = .ok (.iconst 1, 1) := by decide +kernel
theorem dX7_fits_190 : decode cX7_fits 190 = .ok (.goto 4, 3) := by decide +kernel
theorem dX7_fits_193 : decode cX7_fits 193 = .ok (.iconst 0, 1) := by decide +kernel
theorem dX7_fits_194 : decode cX7_fits 194 = .ok (.ireturn, 1) := by decide +kernel
theorem dX7_load_0 : decode cX7_load 0 = .ok (.aload_n 0, 1) := by decide +kernel
theorem dX7_load_1 : decode cX7_load 1 = .ok (.invokevirtual 207, 3) := by decide +kernel
theorem dX7_load_4 : decode cX7_load 4 = .ok (.aload_n 0, 1) := by decide +kernel
theorem dX7_load_5 : decode cX7_load 5 = .ok (.getfield 166, 3) := by decide +kernel
theorem dX7_load_8 : decode cX7_load 8 = .ok (.if_icmp .ne 14, 3) := by decide +kernel
theorem dX7_load_11 : decode cX7_load 11 = .ok (.aload_n 0, 1) := by decide +kernel
theorem dX7_load_12 : decode cX7_load 12 = .ok (.invokevirtual 188, 3) := by decide +kernel
theorem dX7_load_15 : decode cX7_load 15 = .ok (.ifCond .eq 7, 3) := by decide +kernel
theorem dX7_load_18 : decode cX7_load 18 = .ok (.iconst 1, 1) := by decide +kernel
theorem dX7_load_19 : decode cX7_load 19 = .ok (.goto 4, 3) := by decide +kernel
theorem dX7_load_22 : decode cX7_load 22 = .ok (.iconst 0, 1) := by decide +kernel
theorem dX7_load_23 : decode cX7_load 23 = .ok (.istore_n 1, 1) := by decide +kernel
theorem dX7_load_24 : decode cX7_load 24 = .ok (.aload_n 0, 1) := by decide +kernel
theorem dX7_load_25 : decode cX7_load 25 = .ok (.dup, 1) := by decide +kernel
theorem dX7_load_26 : decode cX7_load 26 = .ok (.getfield 169, 3) := by decide +kernel
theorem dX7_load_29 : decode cX7_load 29 = .ok (.iload_n 1, 1) := by decide +kernel
theorem dX7_load_30 : decode cX7_load 30 = .ok (.ifCond .eq 7, 3) := by decide +kernel
theorem dX7_load_33 : decode cX7_load 33 = .ok (.iconst 1, 1) := by decide +kernel
theorem dX7_load_34 : decode cX7_load 34 = .ok (.goto 4, 3) := by decide +kernel
theorem dX7_load_37 : decode cX7_load 37 = .ok (.iconst 0, 1) := by decide +kernel
theorem dX7_load_38 : decode cX7_load 38 = .ok (.iadd, 1) := by decide +kernel
theorem dX7_load_39 : decode cX7_load 39 = .ok (.putfield 169, 3) := by decide +kernel
theorem dX7_load_42 : decode cX7_load 42 = .ok (.iconst 0, 1) := by decide +kernel
theorem dX7_load_43 : decode cX7_load 43 = .ok (.istore_n 2, 1) := by decide +kernel
theorem dX7_load_44 : decode cX7_load 44 = .ok (.iload_n 2, 1) := by decide +kernel
theorem dX7_load_45 : decode cX7_load 45 = .ok (.aload_n 0, 1) := by decide +kernel
theorem dX7_load_46 : decode cX7_load 46 = .ok (.getfield 169, 3) := by decide +kernel
theorem dX7_load_49 : decode cX7_load 49 = .ok (.if_icmp .ge 19, 3) := by decide +kernel
theorem dX7_load_52 : decode cX7_load 52 = .ok (.iload_n 1, 1) := by decide +kernel
theorem dX7_load_53 : decode cX7_load 53 = .ok (.ifCond .eq 15, 3) := by decide +kernel
theorem dX7_load_56 : decode cX7_load 56 = .ok (.aload_n 0, 1) := by decide +kernel
theorem dX7_load_57 : decode cX7_load 57 = .ok (.iload_n 2, 1) := by decide +kernel
theorem dX7_load_58 : decode cX7_load 58 = .ok (.invokevirtual 210, 3) := by decide +kernel
theorem dX7_load_61 : decode cX7_load 61 = .ok (.istore_n 1, 1) := by decide +kernel
theorem dX7_load_62 : decode cX7_load 62 = .ok (.iinc 2 1, 3) := by decide +kernel
theorem dX7_load_65 : decode cX7_load 65 = .ok (.goto (-21), 3) := by decide +kernel
theorem dX7_load_68 : decode cX7_load 68 = .ok (.iload_n 1, 1) := by decide +kernel
theorem dX7_load_69 : decode cX7_load 69 = .ok (.ifCond .ne 10, 3) := by decide +kernel
theorem dX7_load_72 : decode cX7_load 72 = .ok (.aload_n 0, 1) := by decide +kernel
theorem dX7_load_73 : decode cX7_load 73 = .ok (.iconst 1, 1) := by decide +kernel
theorem dX7_load_74 : decode cX7_load 74 = .ok (.putfield 41, 3) := by decide +kernel
theorem dX7_load_77 : decode cX7_load 77 = .ok (.iconst 0, 1) := by decide +kernel
theorem dX7_load_78 : decode cX7_load 78 = .ok (.ireturn, 1) := by decide +kernel
theorem dX7_load_79 : decode cX7_load 79 = .ok (.aload_n 0, 1) := by decide +kernel
theorem dX7_load_80 : decode cX7_load 80 = .ok (.aload_n 0, 1) := by decide +kernel
theorem dX7_load_81 : decode cX7_load 81 = .ok (.getfield 7, 3) := by decide +kernel
theorem dX7_load_84 : decode cX7_load 84 = .ok (.iconst 0, 1) := by decide +kernel
theorem dX7_load_85 : decode cX7_load 85 = .ok (.aload_n 0, 1) := by decide +kernel
theorem dX7_load_86 : decode cX7_load 86 = .ok (.getfield 13, 3) := by decide +kernel
theorem dX7_load_89 : decode cX7_load 89 = .ok (.iconst 0, 1) := by decide +kernel
theorem dX7_load_90 : decode cX7_load 90 = .ok (.invokevirtual 56, 3) := by decide +kernel
theorem dX7_load_93 : decode cX7_load 93 = .ok (.aload_n 0, 1) := by decide +kernel
theorem dX7_load_94 : decode cX7_load 94 = .ok (.invokevirtual 213, 3) := by decide +kernel
theorem dX7_load_97 : decode cX7_load 97 = .ok (.istore_n 2, 1) := by decide +kernel
theorem dX7_load_98 : decode cX7_load 98 = .ok (.aload_n 0, 1) := by decide +kernel
theorem dX7_load_99 : decode cX7_load 99 = .ok (.iload_n 2, 1) := by decide +kernel
theorem dX7_load_100 : decode cX7_load 100 = .ok (.ifCond .eq 7, 3) := by decide +kernel
theorem dX7_load_103 : decode cX7_load 103 = .ok (.iconst 0, 1) := by decide +kernel
theorem dX7_load_104 : decode cX7_load 104 = .ok (.goto 4, 3) := by decide +kernel
theorem dX7_load_107 : decode cX7_load 107 = .ok (.iconst 2, 1) := by decide +kernel
theorem dX7_load_108 : decode cX7_load 108 = .ok (.putfield 41, 3) := by decide +kernel
theorem dX7_load_111 : decode cX7_load 111 = .ok (.iload_n 2, 1) := by decide +kernel
theorem dX7_load_112 : decode cX7_load 112 = .ok (.ifCond .ne 19, 3) := by decide +kernel
theorem dX7_load_115 : decode cX7_load 115 = .ok (.aload_n 0, 1) := by decide +kernel
theorem dX7_load_116 : decode cX7_load 116 = .ok (.aload_n 0, 1) := by decide +kernel
theorem dX7_load_117 : decode cX7_load 117 = .ok (.getfield 13, 3) := by decide +kernel
theorem dX7_load_120 : decode cX7_load 120 = .ok (.iconst 0, 1) := by decide +kernel
theorem dX7_load_121 : decode cX7_load 121 = .ok (.aload_n 0, 1) := by decide +kernel
theorem dX7_load_122 : decode cX7_load 122 = .ok (.getfield 7, 3) := by decide +kernel
theorem dX7_load_125 : decode cX7_load 125 = .ok (.iconst 0, 1) := by decide +kernel
theorem dX7_load_126 : decode cX7_load 126 = .ok (.invokevirtual 56, 3) := by decide +kernel
theorem dX7_load_129 : decode cX7_load 129 = .ok (.iconst 0, 1) := by decide +kernel
theorem dX7_load_130 : decode cX7_load 130 = .ok (.ireturn, 1) := by decide +kernel
theorem dX7_load_131 : decode cX7_load 131 = .ok (.aload_n 0, 1) := by decide +kernel
theorem dX7_load_132 : decode cX7_load 132 = .ok (.getfield 7, 3) := by decide +kernel
theorem dX7_load_135 : decode cX7_load 135 = .ok (.bipush 48, 2) := by decide +kernel
theorem dX7_load_137 : decode cX7_load 137 = .ok (.iaload, 1) := by decide +kernel
theorem dX7_load_138 : decode cX7_load 138 = .ok (.istore_n 3, 1) := by decide +kernel
theorem dX7_load_139 : decode cX7_load 139 = .ok (.aload_n 0, 1) := by decide +kernel
theorem dX7_load_140 : decode cX7_load 140 = .ok (.getfield 7, 3) := by decide +kernel
theorem dX7_load_143 : decode cX7_load 143 = .ok (.bipush 48, 2) := by decide +kernel
theorem dX7_load_145 : decode cX7_load 145 = .ok (.aload_n 0, 1) := by decide +kernel
theorem dX7_load_146 : decode cX7_load 146 = .ok (.getfield 13, 3) := by decide +kernel
theorem dX7_load_149 : decode cX7_load 149 = .ok (.bipush 48, 2) := by decide +kernel
theorem dX7_load_151 : decode cX7_load 151 = .ok (.iaload, 1) := by decide +kernel
theorem dX7_load_152 : decode cX7_load 152 = .ok (.iastore, 1) := by decide +kernel
theorem dX7_load_153 : decode cX7_load 153 = .ok (.aload_n 0, 1) := by decide +kernel
theorem dX7_load_154 : decode cX7_load 154 = .ok (.invokevirtual 147, 3) := by decide +kernel
theorem dX7_load_157 : decode cX7_load 157 = .ok (.aload_n 0, 1) := by decide +kernel
theorem dX7_load_158 : decode cX7_load 158 = .ok (.getfield 7, 3) := by decide +kernel
theorem dX7_load_161 : decode cX7_load 161 = .ok (.bipush 48, 2) := by decide +kernel
theorem dX7_load_163 : decode cX7_load 163 = .ok (.iload_n 3, 1) := by decide +kernel
theorem dX7_load_164 : decode cX7_load 164 = .ok (.iastore, 1) := by decide +kernel
theorem dX7_load_165 : decode cX7_load 165 = .ok (.aload_n 0, 1) := by decide +kernel
theorem dX7_load_166 : decode cX7_load 166 = .ok (.iconst 0, 1) := by decide +kernel
theorem dX7_load_167 : decode cX7_load 167 = .ok (.putfield 166, 3) := by decide +kernel
theorem dX7_load_170 : decode cX7_load 170 = .ok (.aload_n 0, 1) := by decide +kernel
theorem dX7_load_171 : decode cX7_load 171 = .ok (.invokevirtual 150, 3) := by decide +kernel
theorem dX7_load_174 : decode cX7_load 174 = .ok (.iload_n 3, 1) := by decide +kernel
theorem dX7_load_175 : decode cX7_load 175 = .ok (.ireturn, 1) := by decide +kernel
theorem dX7_common_0 : decode cX7_common 0 = .ok (.lload_n 0, 1) := by decide +kernel
theorem dX7_common_1 : decode cX7_common 1 = .ok (.lconst 0, 1) := by decide +kernel
theorem dX7_common_2 : decode cX7_common 2 = .ok (.lcmp, 1) := by decide +kernel
theorem dX7_common_3 : decode cX7_common 3 = .ok (.ifCond .ge 8, 3) := by decide +kernel
theorem dX7_common_6 : decode cX7_common 6 = .ok (.lload_n 0, 1) := by decide +kernel
theorem dX7_common_7 : decode cX7_common 7 = .ok (.lneg, 1) := by decide +kernel
theorem dX7_common_8 : decode cX7_common 8 = .ok (.goto 4, 3) := by decide +kernel
theorem dX7_common_11 : decode cX7_common 11 = .ok (.lload_n 0, 1) := by decide +kernel
theorem dX7_common_12 : decode cX7_common 12 = .ok (.lstore 4, 2) := by decide +kernel
theorem dX7_common_14 : decode cX7_common 14 = .ok (.lload_n 2, 1) := by decide +kernel
theorem dX7_common_15 : decode cX7_common 15 = .ok (.lstore 6, 2) := by decide +kernel
theorem dX7_common_17 : decode cX7_common 17 = .ok (.lload 6, 2) := by decide +kernel
theorem dX7_common_19 : decode cX7_common 19 = .ok (.lconst 0, 1) := by decide +kernel
theorem dX7_common_20 : decode cX7_common 20 = .ok (.lcmp, 1) := by decide +kernel
theorem dX7_common_21 : decode cX7_common 21 = .ok (.ifCond .le 21, 3) := by decide +kernel
theorem dX7_common_24 : decode cX7_common 24 = .ok (.lload 4, 2) := by decide +kernel
theorem dX7_common_26 : decode cX7_common 26 = .ok (.lload 6, 2) := by decide +kernel
theorem dX7_common_28 : decode cX7_common 28 = .ok (.lrem, 1) := by decide +kernel
theorem dX7_common_29 : decode cX7_common 29 = .ok (.lstore 8, 2) := by decide +kernel
theorem dX7_common_31 : decode cX7_common 31 = .ok (.lload 6, 2) := by decide +kernel
theorem dX7_common_33 : decode cX7_common 33 = .ok (.lstore 4, 2) := by decide +kernel
theorem dX7_common_35 : decode cX7_common 35 = .ok (.lload 8, 2) := by decide +kernel
theorem dX7_common_37 : decode cX7_common 37 = .ok (.lstore 6, 2) := by decide +kernel
theorem dX7_common_39 : decode cX7_common 39 = .ok (.goto (-22), 3) := by decide +kernel
theorem dX7_common_42 : decode cX7_common 42 = .ok (.lload 4, 2) := by decide +kernel
theorem dX7_common_44 : decode cX7_common 44 = .ok (.lreturn, 1) := by decide +kernel
theorem dX7_reduced_0 : decode cX7_reduced 0 = .ok (.iload_n 3, 1) := by decide +kernel
theorem dX7_reduced_1 : decode cX7_reduced 1 = .ok (.ifCond .ne 7, 3) := by decide +kernel
theorem dX7_reduced_4 : decode cX7_reduced 4 = .ok (.lload_n 1, 1) := by decide +kernel
theorem dX7_reduced_5 : decode cX7_reduced 5 = .ok (.goto 7, 3) := by decide +kernel
theorem dX7_reduced_8 : decode cX7_reduced 8 = .ok (.aload_n 0, 1) := by decide +kernel
theorem dX7_reduced_9 : decode cX7_reduced 9 = .ok (.getfield 122, 3) := by decide +kernel
theorem dX7_reduced_12 : decode cX7_reduced 12 = .ok (.lload_n 1, 1) := by decide +kernel
theorem dX7_reduced_13 : decode cX7_reduced 13 = .ok (.aload_n 0, 1) := by decide +kernel
theorem dX7_reduced_14 : decode cX7_reduced 14 = .ok (.getfield 122, 3) := by decide +kernel
theorem dX7_reduced_17 : decode cX7_reduced 17 = .ok (.invokestatic 216, 3) := by decide +kernel
theorem dX7_reduced_20 : decode cX7_reduced 20 = .ok (.ldiv, 1) := by decide +kernel
theorem dX7_reduced_21 : decode cX7_reduced 21 = .ok (.lreturn, 1) := by decide +kernel
theorem dX7_voltageNow_0 : decode cX7_voltageNow 0 = .ok (.iload_n 2, 1) := by decide +kernel
theorem dX7_voltageNow_1 : decode cX7_voltageNow 1 = .ok (.ifCond .eq 11, 3) := by decide +kernel
theorem dX7_voltageNow_4 : decode cX7_voltageNow 4 = .ok (.aload_n 0, 1) := by decide +kernel
theorem dX7_voltageNow_5 : decode cX7_voltageNow 5 = .ok (.iload_n 2, 1) := by decide +kernel
theorem dX7_voltageNow_6 : decode cX7_voltageNow 6 = .ok (.invokevirtual 71, 3) := by decide +kernel
theorem dX7_voltageNow_9 : decode cX7_voltageNow 9 = .ok (.ifCond .eq 16, 3) := by decide +kernel
theorem dX7_voltageNow_12 : decode cX7_voltageNow 12 = .ok (.aload_n 0, 1) := by decide +kernel
theorem dX7_voltageNow_13 : decode cX7_voltageNow 13 = .ok (.iload_n 1, 1) := by decide +kernel
theorem dX7_voltageNow_14 : decode cX7_voltageNow 14 = .ok (.iconst (-1), 1) := by decide +kernel
theorem dX7_voltageNow_15 : decode cX7_voltageNow 15 = .ok (.invokevirtual 126, 3) := by decide +kernel
theorem dX7_voltageNow_18 : decode cX7_voltageNow 18 = .ok (.ifCond .eq 7, 3) := by decide +kernel
theorem dX7_voltageNow_21 : decode cX7_voltageNow 21 = .ok (.iconst 1, 1) := by decide +kernel
theorem dX7_voltageNow_22 : decode cX7_voltageNow 22 = .ok (.goto 4, 3) := by decide +kernel
theorem dX7_voltageNow_25 : decode cX7_voltageNow 25 = .ok (.iconst 0, 1) := by decide +kernel
theorem dX7_voltageNow_26 : decode cX7_voltageNow 26 = .ok (.istore 4, 2) := by decide +kernel
theorem dX7_voltageNow_28 : decode cX7_voltageNow 28 = .ok (.iload 4, 2) := by decide +kernel
theorem dX7_voltageNow_30 : decode cX7_voltageNow 30 = .ok (.ifCond .eq 17, 3) := by decide +kernel
theorem dX7_voltageNow_33 : decode cX7_voltageNow 33 = .ok (.aload_n 0, 1) := by decide +kernel
theorem dX7_voltageNow_34 : decode cX7_voltageNow 34 = .ok (.aload_n 0, 1) := by decide +kernel
theorem dX7_voltageNow_35 : decode cX7_voltageNow 35 = .ok (.getfield 35, 3) := by decide +kernel
theorem dX7_voltageNow_38 : decode cX7_voltageNow 38 = .ok (.iload_n 2, 1) := by decide +kernel
theorem dX7_voltageNow_39 : decode cX7_voltageNow 39 = .ok (.laload, 1) := by decide +kernel
theorem dX7_voltageNow_40 : decode cX7_voltageNow 40 = .ok (.iload_n 3, 1) := by decide +kernel
theorem dX7_voltageNow_41 : decode cX7_voltageNow 41 = .ok (.invokevirtual 220, 3) := by decide +kernel
theorem dX7_voltageNow_44 : decode cX7_voltageNow 44 = .ok (.goto 4, 3) := by decide +kernel
theorem dX7_voltageNow_47 : decode cX7_voltageNow 47 = .ok (.lconst 0, 1) := by decide +kernel
theorem dX7_voltageNow_48 : decode cX7_voltageNow 48 = .ok (.lreturn, 1) := by decide +kernel
theorem dX7_isNode_0 : decode cX7_isNode 0 = .ok (.iload_n 0, 1) := by decide +kernel
theorem dX7_isNode_1 : decode cX7_isNode 1 = .ok (.iconst 0, 1) := by decide +kernel
theorem dX7_isNode_2 : decode cX7_isNode 2 = .ok (.bipush 6, 2) := by decide +kernel
theorem dX7_isNode_4 : decode cX7_isNode 4 = .ok (.invokestatic 45, 3) := by decide +kernel
theorem dX7_isNode_7 : decode cX7_isNode 7 = .ok (.ireturn, 1) := by decide +kernel
theorem dX7_present_0 : decode cX7_present 0 = .ok (.aload_n 0, 1) := by decide +kernel
theorem dX7_present_1 : decode cX7_present 1 = .ok (.getfield 7, 3) := by decide +kernel
theorem dX7_present_4 : decode cX7_present 4 = .ok (.bipush 51, 2) := by decide +kernel
theorem dX7_present_6 : decode cX7_present 6 = .ok (.iaload, 1) := by decide +kernel
theorem dX7_present_7 : decode cX7_present 7 = .ok (.iconst 1, 1) := by decide +kernel
theorem dX7_present_8 : decode cX7_present 8 = .ok (.if_icmp .ne 19, 3) := by decide +kernel
theorem dX7_present_11 : decode cX7_present 11 = .ok (.aload_n 0, 1) := by decide +kernel
theorem dX7_present_12 : decode cX7_present 12 = .ok (.aload_n 0, 1) := by decide +kernel
theorem dX7_present_13 : decode cX7_present 13 = .ok (.getfield 7, 3) := by decide +kernel
theorem dX7_present_16 : decode cX7_present 16 = .ok (.bipush 50, 2) := by decide +kernel
theorem dX7_present_18 : decode cX7_present 18 = .ok (.iaload, 1) := by decide +kernel
theorem dX7_present_19 : decode cX7_present 19 = .ok (.iload_n 1, 1) := by decide +kernel
theorem dX7_present_20 : decode cX7_present 20 = .ok (.iload_n 2, 1) := by decide +kernel
theorem dX7_present_21 : decode cX7_present 21 = .ok (.invokevirtual 224, 3) := by decide +kernel
theorem dX7_present_24 : decode cX7_present 24 = .ok (.goto 4, 3) := by decide +kernel
theorem dX7_present_27 : decode cX7_present 27 = .ok (.lconst 0, 1) := by decide +kernel
theorem dX7_present_28 : decode cX7_present 28 = .ok (.lreturn, 1) := by decide +kernel
theorem dX7_voltage_0 : decode cX7_voltage 0 = .ok (.aload_n 0, 1) := by decide +kernel
theorem dX7_voltage_1 : decode cX7_voltage 1 = .ok (.iload_n 1, 1) := by decide +kernel
theorem dX7_voltage_2 : decode cX7_voltage 2 = .ok (.invokestatic 228, 3) := by decide +kernel
theorem dX7_voltage_5 : decode cX7_voltage 5 = .ok (.ifCond .ne 7, 3) := by decide +kernel
theorem dX7_voltage_8 : decode cX7_voltage 8 = .ok (.iconst 1, 1) := by decide +kernel
theorem dX7_voltage_9 : decode cX7_voltage 9 = .ok (.goto 17, 3) := by decide +kernel
theorem dX7_voltage_12 : decode cX7_voltage 12 = .ok (.iload_n 2, 1) := by decide +kernel
theorem dX7_voltage_13 : decode cX7_voltage 13 = .ok (.iconst 0, 1) := by decide +kernel
theorem dX7_voltage_14 : decode cX7_voltage 14 = .ok (.iconst 1, 1) := by decide +kernel
theorem dX7_voltage_15 : decode cX7_voltage 15 = .ok (.invokestatic 45, 3) := by decide +kernel
theorem dX7_voltage_18 : decode cX7_voltage 18 = .ok (.ifCond .eq 7, 3) := by decide +kernel
theorem dX7_voltage_21 : decode cX7_voltage 21 = .ok (.iconst 0, 1) := by decide +kernel
theorem dX7_voltage_22 : decode cX7_voltage 22 = .ok (.goto 4, 3) := by decide +kernel
theorem dX7_voltage_25 : decode cX7_voltage 25 = .ok (.iconst 2, 1) := by decide +kernel
theorem dX7_voltage_26 : decode cX7_voltage 26 = .ok (.putfield 41, 3) := by decide +kernel
theorem dX7_voltage_29 : decode cX7_voltage 29 = .ok (.aload_n 0, 1) := by decide +kernel
theorem dX7_voltage_30 : decode cX7_voltage 30 = .ok (.getfield 41, 3) := by decide +kernel
theorem dX7_voltage_33 : decode cX7_voltage 33 = .ok (.ifCond .le 7, 3) := by decide +kernel
theorem dX7_voltage_36 : decode cX7_voltage 36 = .ok (.lconst 0, 1) := by decide +kernel
theorem dX7_voltage_37 : decode cX7_voltage 37 = .ok (.goto 9, 3) := by decide +kernel
theorem dX7_voltage_40 : decode cX7_voltage 40 = .ok (.aload_n 0, 1) := by decide +kernel
theorem dX7_voltage_41 : decode cX7_voltage 41 = .ok (.iload_n 1, 1) := by decide +kernel
theorem dX7_voltage_42 : decode cX7_voltage 42 = .ok (.iload_n 2, 1) := by decide +kernel
theorem dX7_voltage_43 : decode cX7_voltage 43 = .ok (.invokevirtual 231, 3) := by decide +kernel
theorem dX7_voltage_46 : decode cX7_voltage 46 = .ok (.lreturn, 1) := by decide +kernel
theorem dX7_current_0 : decode cX7_current 0 = .ok (.aload_n 0, 1) := by decide +kernel
theorem dX7_current_1 : decode cX7_current 1 = .ok (.aload_n 0, 1) := by decide +kernel
theorem dX7_current_2 : decode cX7_current 2 = .ok (.iload_n 1, 1) := by decide +kernel
theorem dX7_current_3 : decode cX7_current 3 = .ok (.invokevirtual 153, 3) := by decide +kernel
theorem dX7_current_6 : decode cX7_current 6 = .ok (.ifCond .ne 7, 3) := by decide +kernel
theorem dX7_current_9 : decode cX7_current 9 = .ok (.iconst 1, 1) := by decide +kernel
theorem dX7_current_10 : decode cX7_current 10 = .ok (.goto 30, 3) := by decide +kernel
theorem dX7_current_13 : decode cX7_current 13 = .ok (.aload_n 0, 1) := by decide +kernel
theorem dX7_current_14 : decode cX7_current 14 = .ok (.iload_n 1, 1) := by decide +kernel
theorem dX7_current_15 : decode cX7_current 15 = .ok (.iconst 0, 1) := by decide +kernel
theorem dX7_current_16 : decode cX7_current 16 = .ok (.invokevirtual 60, 3) := by decide +kernel
theorem dX7_current_19 : decode cX7_current 19 = .ok (.ifCond .ne 7, 3) := by decide +kernel
theorem dX7_current_22 : decode cX7_current 22 = .ok (.iconst 2, 1) := by decide +kernel
theorem dX7_current_23 : decode cX7_current 23 = .ok (.goto 17, 3) := by decide +kernel
theorem dX7_current_26 : decode cX7_current 26 = .ok (.iload_n 2, 1) := by decide +kernel
theorem dX7_current_27 : decode cX7_current 27 = .ok (.iconst 0, 1) := by decide +kernel
theorem dX7_current_28 : decode cX7_current 28 = .ok (.iconst 1, 1) := by decide +kernel
theorem dX7_current_29 : decode cX7_current 29 = .ok (.invokestatic 45, 3) := by decide +kernel
theorem dX7_current_32 : decode cX7_current 32 = .ok (.ifCond .eq 7, 3) := by decide +kernel
theorem dX7_current_35 : decode cX7_current 35 = .ok (.iconst 0, 1) := by decide +kernel
theorem dX7_current_36 : decode cX7_current 36 = .ok (.goto 4, 3) := by decide +kernel
theorem dX7_current_39 : decode cX7_current 39 = .ok (.iconst 3, 1) := by decide +kernel
theorem dX7_current_40 : decode cX7_current 40 = .ok (.putfield 41, 3) := by decide +kernel
theorem dX7_current_43 : decode cX7_current 43 = .ok (.aload_n 0, 1) := by decide +kernel
theorem dX7_current_44 : decode cX7_current 44 = .ok (.getfield 41, 3) := by decide +kernel
theorem dX7_current_47 : decode cX7_current 47 = .ok (.ifCond .gt 13, 3) := by decide +kernel
theorem dX7_current_50 : decode cX7_current 50 = .ok (.aload_n 0, 1) := by decide +kernel
theorem dX7_current_51 : decode cX7_current 51 = .ok (.getfield 7, 3) := by decide +kernel
theorem dX7_current_54 : decode cX7_current 54 = .ok (.bipush 51, 2) := by decide +kernel
theorem dX7_current_56 : decode cX7_current 56 = .ok (.iaload, 1) := by decide +kernel
theorem dX7_current_57 : decode cX7_current 57 = .ok (.ifCond .ne 5, 3) := by decide +kernel
theorem dX7_current_60 : decode cX7_current 60 = .ok (.lconst 0, 1) := by decide +kernel
theorem dX7_current_61 : decode cX7_current 61 = .ok (.lreturn, 1) := by decide +kernel
theorem dX7_current_62 : decode cX7_current 62 = .ok (.aload_n 0, 1) := by decide +kernel
theorem dX7_current_63 : decode cX7_current 63 = .ok (.aload_n 0, 1) := by decide +kernel
theorem dX7_current_64 : decode cX7_current 64 = .ok (.getfield 7, 3) := by decide +kernel
theorem dX7_current_67 : decode cX7_current 67 = .ok (.bipush 50, 2) := by decide +kernel
theorem dX7_current_69 : decode cX7_current 69 = .ok (.iaload, 1) := by decide +kernel
theorem dX7_current_70 : decode cX7_current 70 = .ok (.iconst (-1), 1) := by decide +kernel
theorem dX7_current_71 : decode cX7_current 71 = .ok (.invokevirtual 126, 3) := by decide +kernel
theorem dX7_current_74 : decode cX7_current 74 = .ok (.pop, 1) := by decide +kernel
theorem dX7_current_75 : decode cX7_current 75 = .ok (.aload_n 0, 1) := by decide +kernel
theorem dX7_current_76 : decode cX7_current 76 = .ok (.aload_n 0, 1) := by decide +kernel
theorem dX7_current_77 : decode cX7_current 77 = .ok (.iload_n 1, 1) := by decide +kernel
theorem dX7_current_78 : decode cX7_current 78 = .ok (.iconst 3, 1) := by decide +kernel
theorem dX7_current_79 : decode cX7_current 79 = .ok (.invokevirtual 49, 3) := by decide +kernel
theorem dX7_current_82 : decode cX7_current 82 = .ok (.i2l, 1) := by decide +kernel
theorem dX7_current_83 : decode cX7_current 83 = .ok (.aload_n 0, 1) := by decide +kernel
theorem dX7_current_84 : decode cX7_current 84 = .ok (.getfield 35, 3) := by decide +kernel
theorem dX7_current_87 : decode cX7_current 87 = .ok (.aload_n 0, 1) := by decide +kernel
theorem dX7_current_88 : decode cX7_current 88 = .ok (.iload_n 1, 1) := by decide +kernel
theorem dX7_current_89 : decode cX7_current 89 = .ok (.iconst 1, 1) := by decide +kernel
theorem dX7_current_90 : decode cX7_current 90 = .ok (.invokevirtual 49, 3) := by decide +kernel
theorem dX7_current_93 : decode cX7_current 93 = .ok (.laload, 1) := by decide +kernel
theorem dX7_current_94 : decode cX7_current 94 = .ok (.aload_n 0, 1) := by decide +kernel
theorem dX7_current_95 : decode cX7_current 95 = .ok (.getfield 35, 3) := by decide +kernel
theorem dX7_current_98 : decode cX7_current 98 = .ok (.aload_n 0, 1) := by decide +kernel
theorem dX7_current_99 : decode cX7_current 99 = .ok (.iload_n 1, 1) := by decide +kernel
theorem dX7_current_100 : decode cX7_current 100 = .ok (.iconst 2, 1) := by decide +kernel
theorem dX7_current_101 : decode cX7_current 101 = .ok (.invokevirtual 49, 3) := by decide +kernel
theorem dX7_current_104 : decode cX7_current 104 = .ok (.laload, 1) := by decide +kernel
theorem dX7_current_105 : decode cX7_current 105 = .ok (.lsub, 1) := by decide +kernel
theorem dX7_current_106 : decode cX7_current 106 = .ok (.lmul, 1) := by decide +kernel
theorem dX7_current_107 : decode cX7_current 107 = .ok (.iload_n 2, 1) := by decide +kernel
theorem dX7_current_108 : decode cX7_current 108 = .ok (.invokevirtual 220, 3) := by decide +kernel
theorem dX7_current_111 : decode cX7_current 111 = .ok (.lreturn, 1) := by decide +kernel
theorem dX7_signNow_0 : decode cX7_signNow 0 = .ok (.aload_n 0, 1) := by decide +kernel
theorem dX7_signNow_1 : decode cX7_signNow 1 = .ok (.getfield 7, 3) := by decide +kernel
theorem dX7_signNow_4 : decode cX7_signNow 4 = .ok (.bipush 51, 2) := by decide +kernel
theorem dX7_signNow_6 : decode cX7_signNow 6 = .ok (.iaload, 1) := by decide +kernel
theorem dX7_signNow_7 : decode cX7_signNow 7 = .ok (.ifCond .ne 5, 3) := by decide +kernel
theorem dX7_signNow_10 : decode cX7_signNow 10 = .ok (.iconst 0, 1) := by decide +kernel
theorem dX7_signNow_11 : decode cX7_signNow 11 = .ok (.ireturn, 1) := by decide +kernel
theorem dX7_signNow_12 : decode cX7_signNow 12 = .ok (.aload_n 0, 1) := by decide +kernel
theorem dX7_signNow_13 : decode cX7_signNow 13 = .ok (.aload_n 0, 1) := by decide +kernel
theorem dX7_signNow_14 : decode cX7_signNow 14 = .ok (.getfield 7, 3) := by decide +kernel
theorem dX7_signNow_17 : decode cX7_signNow 17 = .ok (.bipush 50, 2) := by decide +kernel
theorem dX7_signNow_19 : decode cX7_signNow 19 = .ok (.iaload, 1) := by decide +kernel
theorem dX7_signNow_20 : decode cX7_signNow 20 = .ok (.iconst (-1), 1) := by decide +kernel
theorem dX7_signNow_21 : decode cX7_signNow 21 = .ok (.invokevirtual 126, 3) := by decide +kernel
theorem dX7_signNow_24 : decode cX7_signNow 24 = .ok (.pop, 1) := by decide +kernel
theorem dX7_signNow_25 : decode cX7_signNow 25 = .ok (.aload_n 0, 1) := by decide +kernel
theorem dX7_signNow_26 : decode cX7_signNow 26 = .ok (.iload_n 1, 1) := by decide +kernel
theorem dX7_signNow_27 : decode cX7_signNow 27 = .ok (.invokevirtual 129, 3) := by decide +kernel
theorem dX7_signNow_30 : decode cX7_signNow 30 = .ok (.lstore_n 2, 1) := by decide +kernel
theorem dX7_signNow_31 : decode cX7_signNow 31 = .ok (.lload_n 2, 1) := by decide +kernel
theorem dX7_signNow_32 : decode cX7_signNow 32 = .ok (.lconst 0, 1) := by decide +kernel
theorem dX7_signNow_33 : decode cX7_signNow 33 = .ok (.lcmp, 1) := by decide +kernel
theorem dX7_signNow_34 : decode cX7_signNow 34 = .ok (.ifCond .le 7, 3) := by decide +kernel
theorem dX7_signNow_37 : decode cX7_signNow 37 = .ok (.iconst 1, 1) := by decide +kernel
theorem dX7_signNow_38 : decode cX7_signNow 38 = .ok (.goto 14, 3) := by decide +kernel
theorem dX7_signNow_41 : decode cX7_signNow 41 = .ok (.lload_n 2, 1) := by decide +kernel
theorem dX7_signNow_42 : decode cX7_signNow 42 = .ok (.lconst 0, 1) := by decide +kernel
theorem dX7_signNow_43 : decode cX7_signNow 43 = .ok (.lcmp, 1) := by decide +kernel
theorem dX7_signNow_44 : decode cX7_signNow 44 = .ok (.ifCond .ge 7, 3) := by decide +kernel
theorem dX7_signNow_47 : decode cX7_signNow 47 = .ok (.iconst (-1), 1) := by decide +kernel
theorem dX7_signNow_48 : decode cX7_signNow 48 = .ok (.goto 4, 3) := by decide +kernel
theorem dX7_signNow_51 : decode cX7_signNow 51 = .ok (.iconst 0, 1) := by decide +kernel
theorem dX7_signNow_52 : decode cX7_signNow 52 = .ok (.ireturn, 1) := by decide +kernel
theorem dX7_amplifierNow_0 : decode cX7_amplifierNow 0 = .ok (.iload_n 2, 1) := by decide +kernel
theorem dX7_amplifierNow_1 : decode cX7_amplifierNow 1 = .ok (.ifCond .ne 11, 3) := by decide +kernel
theorem dX7_amplifierNow_4 : decode cX7_amplifierNow 4 = .ok (.aload_n 0, 1) := by decide +kernel
theorem dX7_amplifierNow_5 : decode cX7_amplifierNow 5 = .ok (.iload_n 1, 1) := by decide +kernel
theorem dX7_amplifierNow_6 : decode cX7_amplifierNow 6 = .ok (.invokevirtual 92, 3) := by decide +kernel
theorem dX7_amplifierNow_9 : decode cX7_amplifierNow 9 = .ok (.goto 27, 3) := by decide +kernel
theorem dX7_amplifierNow_12 : decode cX7_amplifierNow 12 = .ok (.iload_n 2, 1) := by decide +kernel
theorem dX7_amplifierNow_13 : decode cX7_amplifierNow 13 = .ok (.iconst 1, 1) := by decide +kernel
theorem dX7_amplifierNow_14 : decode cX7_amplifierNow 14 = .ok (.if_icmp .ne 17, 3) := by decide +kernel
theorem dX7_amplifierNow_17 : decode cX7_amplifierNow 17 = .ok (.aload_n 0, 1) := by decide +kernel
theorem dX7_amplifierNow_18 : decode cX7_amplifierNow 18 = .ok (.getfield 7, 3) := by decide +kernel
theorem dX7_amplifierNow_21 : decode cX7_amplifierNow 21 = .ok (.bipush 50, 2) := by decide +kernel
theorem dX7_amplifierNow_23 : decode cX7_amplifierNow 23 = .ok (.iaload, 1) := by decide +kernel
theorem dX7_amplifierNow_24 : decode cX7_amplifierNow 24 = .ok (.iload_n 1, 1) := by decide +kernel
theorem dX7_amplifierNow_25 : decode cX7_amplifierNow 25 = .ok (.invokestatic 95, 3) := by decide +kernel
theorem dX7_amplifierNow_28 : decode cX7_amplifierNow 28 = .ok (.goto 8, 3) := by decide +kernel
theorem dX7_amplifierNow_31 : decode cX7_amplifierNow 31 = .ok (.aload_n 0, 1) := by decide +kernel
theorem dX7_amplifierNow_32 : decode cX7_amplifierNow 32 = .ok (.iload_n 1, 1) := by decide +kernel
theorem dX7_amplifierNow_33 : decode cX7_amplifierNow 33 = .ok (.invokevirtual 235, 3) := by decide +kernel
theorem dX7_amplifierNow_36 : decode cX7_amplifierNow 36 = .ok (.ireturn, 1) := by decide +kernel
theorem dX7_amplifier_0 : decode cX7_amplifier 0 = .ok (.aload_n 0, 1) := by decide +kernel
theorem dX7_amplifier_1 : decode cX7_amplifier 1 = .ok (.iload_n 1, 1) := by decide +kernel
theorem dX7_amplifier_2 : decode cX7_amplifier 2 = .ok (.iconst 0, 1) := by decide +kernel
theorem dX7_amplifier_3 : decode cX7_amplifier 3 = .ok (.aload_n 0, 1) := by decide +kernel
theorem dX7_amplifier_4 : decode cX7_amplifier 4 = .ok (.invokevirtual 64, 3) := by decide +kernel
theorem dX7_amplifier_7 : decode cX7_amplifier 7 = .ok (.iconst 1, 1) := by decide +kernel
theorem dX7_amplifier_8 : decode cX7_amplifier 8 = .ok (.isub, 1) := by decide +kernel
theorem dX7_amplifier_9 : decode cX7_amplifier 9 = .ok (.invokestatic 45, 3) := by decide +kernel
theorem dX7_amplifier_12 : decode cX7_amplifier 12 = .ok (.ifCond .ne 7, 3) := by decide +kernel
theorem dX7_amplifier_15 : decode cX7_amplifier 15 = .ok (.iconst 1, 1) := by decide +kernel
theorem dX7_amplifier_16 : decode cX7_amplifier 16 = .ok (.goto 17, 3) := by decide +kernel
theorem dX7_amplifier_19 : decode cX7_amplifier 19 = .ok (.iload_n 2, 1) := by decide +kernel
theorem dX7_amplifier_20 : decode cX7_amplifier 20 = .ok (.iconst 0, 1) := by decide +kernel
theorem dX7_amplifier_21 : decode cX7_amplifier 21 = .ok (.iconst 2, 1) := by decide +kernel
theorem dX7_amplifier_22 : decode cX7_amplifier 22 = .ok (.invokestatic 45, 3) := by decide +kernel
theorem dX7_amplifier_25 : decode cX7_amplifier 25 = .ok (.ifCond .eq 7, 3) := by decide +kernel
theorem dX7_amplifier_28 : decode cX7_amplifier 28 = .ok (.iconst 0, 1) := by decide +kernel
theorem dX7_amplifier_29 : decode cX7_amplifier 29 = .ok (.goto 4, 3) := by decide +kernel
theorem dX7_amplifier_32 : decode cX7_amplifier 32 = .ok (.iconst 2, 1) := by decide +kernel
theorem dX7_amplifier_33 : decode cX7_amplifier 33 = .ok (.putfield 41, 3) := by decide +kernel
theorem dX7_amplifier_36 : decode cX7_amplifier 36 = .ok (.aload_n 0, 1) := by decide +kernel
theorem dX7_amplifier_37 : decode cX7_amplifier 37 = .ok (.getfield 41, 3) := by decide +kernel
theorem dX7_amplifier_40 : decode cX7_amplifier 40 = .ok (.ifCond .le 7, 3) := by decide +kernel
theorem dX7_amplifier_43 : decode cX7_amplifier 43 = .ok (.iconst 0, 1) := by decide +kernel
theorem dX7_amplifier_44 : decode cX7_amplifier 44 = .ok (.goto 9, 3) := by decide +kernel
theorem dX7_amplifier_47 : decode cX7_amplifier 47 = .ok (.aload_n 0, 1) := by decide +kernel
theorem dX7_amplifier_48 : decode cX7_amplifier 48 = .ok (.iload_n 1, 1) := by decide +kernel
theorem dX7_amplifier_49 : decode cX7_amplifier 49 = .ok (.iload_n 2, 1) := by decide +kernel
theorem dX7_amplifier_50 : decode cX7_amplifier 50 = .ok (.invokevirtual 238, 3) := by decide +kernel
theorem dX7_amplifier_53 : decode cX7_amplifier 53 = .ok (.ireturn, 1) := by decide +kernel
theorem dX7_isCase_0 : decode cX7_isCase 0 = .ok (.iload_n 1, 1) := by decide +kernel
theorem dX7_isCase_1 : decode cX7_isCase 1 = .ok (.iconst 0, 1) := by decide +kernel
theorem dX7_isCase_2 : decode cX7_isCase 2 = .ok (.aload_n 0, 1) := by decide +kernel
theorem dX7_isCase_3 : decode cX7_isCase 3 = .ok (.invokevirtual 138, 3) := by decide +kernel
theorem dX7_isCase_6 : decode cX7_isCase 6 = .ok (.iconst 1, 1) := by decide +kernel
theorem dX7_isCase_7 : decode cX7_isCase 7 = .ok (.isub, 1) := by decide +kernel
theorem dX7_isCase_8 : decode cX7_isCase 8 = .ok (.invokestatic 45, 3) := by decide +kernel
theorem dX7_isCase_11 : decode cX7_isCase 11 = .ok (.ireturn, 1) := by decide +kernel
theorem dX7_why_0 : decode cX7_why 0 = .ok (.aload_n 0, 1) := by decide +kernel
theorem dX7_why_1 : decode cX7_why 1 = .ok (.aload_n 0, 1) := by decide +kernel
theorem dX7_why_2 : decode cX7_why 2 = .ok (.iload_n 1, 1) := by decide +kernel
theorem dX7_why_3 : decode cX7_why 3 = .ok (.invokevirtual 241, 3) := by decide +kernel
theorem dX7_why_6 : decode cX7_why 6 = .ok (.ifCond .eq 7, 3) := by decide +kernel
theorem dX7_why_9 : decode cX7_why 9 = .ok (.iconst 0, 1) := by decide +kernel
theorem dX7_why_10 : decode cX7_why 10 = .ok (.goto 4, 3) := by decide +kernel
theorem dX7_why_13 : decode cX7_why 13 = .ok (.iconst 1, 1) := by decide +kernel
theorem dX7_why_14 : decode cX7_why 14 = .ok (.putfield 41, 3) := by decide +kernel
theorem dX7_why_17 : decode cX7_why 17 = .ok (.aload_n 0, 1) := by decide +kernel
theorem dX7_why_18 : decode cX7_why 18 = .ok (.getfield 41, 3) := by decide +kernel
theorem dX7_why_21 : decode cX7_why 21 = .ok (.ifCond .le 7, 3) := by decide +kernel
theorem dX7_why_24 : decode cX7_why 24 = .ok (.iconst 0, 1) := by decide +kernel
theorem dX7_why_25 : decode cX7_why 25 = .ok (.goto 8, 3) := by decide +kernel
theorem dX7_why_28 : decode cX7_why 28 = .ok (.aload_n 0, 1) := by decide +kernel
theorem dX7_why_29 : decode cX7_why 29 = .ok (.iload_n 1, 1) := by decide +kernel
theorem dX7_why_30 : decode cX7_why 30 = .ok (.invokevirtual 144, 3) := by decide +kernel
theorem dX7_why_33 : decode cX7_why 33 = .ok (.ireturn, 1) := by decide +kernel
theorem dX7_concernedNow_0 : decode cX7_concernedNow 0 = .ok (.aload_n 0, 1) := by decide +kernel
theorem dX7_concernedNow_1 : decode cX7_concernedNow 1 = .ok (.iload_n 1, 1) := by decide +kernel
theorem dX7_concernedNow_2 : decode cX7_concernedNow 2 = .ok (.invokevirtual 144, 3) := by decide +kernel
theorem dX7_concernedNow_5 : decode cX7_concernedNow 5 = .ok (.pop, 1) := by decide +kernel
theorem dX7_concernedNow_6 : decode cX7_concernedNow 6 = .ok (.aload_n 0, 1) := by decide +kernel
theorem dX7_concernedNow_7 : decode cX7_concernedNow 7 = .ok (.getfield 132, 3) := by decide +kernel
theorem dX7_concernedNow_10 : decode cX7_concernedNow 10 = .ok (.ireturn, 1) := by decide +kernel
theorem dX7_concerned_0 : decode cX7_concerned 0 = .ok (.aload_n 0, 1) := by decide +kernel
theorem dX7_concerned_1 : decode cX7_concerned 1 = .ok (.aload_n 0, 1) := by decide +kernel
theorem dX7_concerned_2 : decode cX7_concerned 2 = .ok (.iload_n 1, 1) := by decide +kernel
theorem dX7_concerned_3 : decode cX7_concerned 3 = .ok (.invokevirtual 241, 3) := by decide +kernel
theorem dX7_concerned_6 : decode cX7_concerned 6 = .ok (.ifCond .eq 7, 3) := by decide +kernel
theorem dX7_concerned_9 : decode cX7_concerned 9 = .ok (.iconst 0, 1) := by decide +kernel
theorem dX7_concerned_10 : decode cX7_concerned 10 = .ok (.goto 4, 3) := by decide +kernel
theorem dX7_concerned_13 : decode cX7_concerned 13 = .ok (.iconst 1, 1) := by decide +kernel
theorem dX7_concerned_14 : decode cX7_concerned 14 = .ok (.putfield 41, 3) := by decide +kernel
theorem dX7_concerned_17 : decode cX7_concerned 17 = .ok (.aload_n 0, 1) := by decide +kernel
theorem dX7_concerned_18 : decode cX7_concerned 18 = .ok (.getfield 41, 3) := by decide +kernel
theorem dX7_concerned_21 : decode cX7_concerned 21 = .ok (.ifCond .le 7, 3) := by decide +kernel
theorem dX7_concerned_24 : decode cX7_concerned 24 = .ok (.iconst 0, 1) := by decide +kernel
theorem dX7_concerned_25 : decode cX7_concerned 25 = .ok (.goto 8, 3) := by decide +kernel
theorem dX7_concerned_28 : decode cX7_concerned 28 = .ok (.aload_n 0, 1) := by decide +kernel
theorem dX7_concerned_29 : decode cX7_concerned 29 = .ok (.iload_n 1, 1) := by decide +kernel
theorem dX7_concerned_30 : decode cX7_concerned 30 = .ok (.invokevirtual 244, 3) := by decide +kernel
theorem dX7_concerned_33 : decode cX7_concerned 33 = .ok (.ireturn, 1) := by decide +kernel
theorem dX7_inCase_0 : decode cX7_inCase 0 = .ok (.aload_n 0, 1) := by decide +kernel
theorem dX7_inCase_1 : decode cX7_inCase 1 = .ok (.aload_n 0, 1) := by decide +kernel
theorem dX7_inCase_2 : decode cX7_inCase 2 = .ok (.iload_n 1, 1) := by decide +kernel
theorem dX7_inCase_3 : decode cX7_inCase 3 = .ok (.invokevirtual 241, 3) := by decide +kernel
theorem dX7_inCase_6 : decode cX7_inCase 6 = .ok (.ifCond .eq 10, 3) := by decide +kernel
theorem dX7_inCase_9 : decode cX7_inCase 9 = .ok (.iload_n 2, 1) := by decide +kernel
theorem dX7_inCase_10 : decode cX7_inCase 10 = .ok (.invokestatic 228, 3) := by decide +kernel
theorem dX7_inCase_13 : decode cX7_inCase 13 = .ok (.ifCond .ne 7, 3) := by decide +kernel
theorem dX7_inCase_16 : decode cX7_inCase 16 = .ok (.iconst 1, 1) := by decide +kernel
theorem dX7_inCase_17 : decode cX7_inCase 17 = .ok (.goto 17, 3) := by decide +kernel
theorem dX7_inCase_20 : decode cX7_inCase 20 = .ok (.iload_n 3, 1) := by decide +kernel
theorem dX7_inCase_21 : decode cX7_inCase 21 = .ok (.iconst 0, 1) := by decide +kernel
theorem dX7_inCase_22 : decode cX7_inCase 22 = .ok (.iconst 1, 1) := by decide +kernel
theorem dX7_inCase_23 : decode cX7_inCase 23 = .ok (.invokestatic 45, 3) := by decide +kernel
theorem dX7_inCase_26 : decode cX7_inCase 26 = .ok (.ifCond .eq 7, 3) := by decide +kernel
theorem dX7_inCase_29 : decode cX7_inCase 29 = .ok (.iconst 0, 1) := by decide +kernel
theorem dX7_inCase_30 : decode cX7_inCase 30 = .ok (.goto 4, 3) := by decide +kernel
theorem dX7_inCase_33 : decode cX7_inCase 33 = .ok (.iconst 2, 1) := by decide +kernel
theorem dX7_inCase_34 : decode cX7_inCase 34 = .ok (.putfield 41, 3) := by decide +kernel
theorem dX7_inCase_37 : decode cX7_inCase 37 = .ok (.aload_n 0, 1) := by decide +kernel
theorem dX7_inCase_38 : decode cX7_inCase 38 = .ok (.getfield 41, 3) := by decide +kernel
theorem dX7_inCase_41 : decode cX7_inCase 41 = .ok (.ifCond .le 7, 3) := by decide +kernel
theorem dX7_inCase_44 : decode cX7_inCase 44 = .ok (.lconst 0, 1) := by decide +kernel
theorem dX7_inCase_45 : decode cX7_inCase 45 = .ok (.goto 10, 3) := by decide +kernel
theorem dX7_inCase_48 : decode cX7_inCase 48 = .ok (.aload_n 0, 1) := by decide +kernel
theorem dX7_inCase_49 : decode cX7_inCase 49 = .ok (.iload_n 1, 1) := by decide +kernel
theorem dX7_inCase_50 : decode cX7_inCase 50 = .ok (.iload_n 2, 1) := by decide +kernel
theorem dX7_inCase_51 : decode cX7_inCase 51 = .ok (.iload_n 3, 1) := by decide +kernel
theorem dX7_inCase_52 : decode cX7_inCase 52 = .ok (.invokevirtual 224, 3) := by decide +kernel
theorem dX7_inCase_55 : decode cX7_inCase 55 = .ok (.lreturn, 1) := by decide +kernel
theorem dX7_tripNow_0 : decode cX7_tripNow 0 = .ok (.aload_n 0, 1) := by decide +kernel
theorem dX7_tripNow_1 : decode cX7_tripNow 1 = .ok (.aload_n 0, 1) := by decide +kernel
theorem dX7_tripNow_2 : decode cX7_tripNow 2 = .ok (.getfield 7, 3) := by decide +kernel
theorem dX7_tripNow_5 : decode cX7_tripNow 5 = .ok (.iconst 0, 1) := by decide +kernel
theorem dX7_tripNow_6 : decode cX7_tripNow 6 = .ok (.aload_n 0, 1) := by decide +kernel
theorem dX7_tripNow_7 : decode cX7_tripNow 7 = .ok (.getfield 13, 3) := by decide +kernel
theorem dX7_tripNow_10 : decode cX7_tripNow 10 = .ok (.iconst 0, 1) := by decide +kernel
theorem dX7_tripNow_11 : decode cX7_tripNow 11 = .ok (.invokevirtual 56, 3) := by decide +kernel
theorem dX7_tripNow_14 : decode cX7_tripNow 14 = .ok (.aload_n 0, 1) := by decide +kernel
theorem dX7_tripNow_15 : decode cX7_tripNow 15 = .ok (.getfield 7, 3) := by decide +kernel
theorem dX7_tripNow_18 : decode cX7_tripNow 18 = .ok (.bipush 50, 2) := by decide +kernel
theorem dX7_tripNow_20 : decode cX7_tripNow 20 = .ok (.iaload, 1) := by decide +kernel
theorem dX7_tripNow_21 : decode cX7_tripNow 21 = .ok (.istore_n 3, 1) := by decide +kernel
theorem dX7_tripNow_22 : decode cX7_tripNow 22 = .ok (.iconst (-1), 1) := by decide +kernel
theorem dX7_tripNow_23 : decode cX7_tripNow 23 = .ok (.istore 4, 2) := by decide +kernel
theorem dX7_tripNow_25 : decode cX7_tripNow 25 = .ok (.iload 4, 2) := by decide +kernel
theorem dX7_tripNow_27 : decode cX7_tripNow 27 = .ok (.iconst (-1), 1) := by decide +kernel
theorem dX7_tripNow_28 : decode cX7_tripNow 28 = .ok (.if_icmp .ne 71, 3) := by decide +kernel
theorem dX7_tripNow_31 : decode cX7_tripNow 31 = .ok (.aload_n 0, 1) := by decide +kernel
theorem dX7_tripNow_32 : decode cX7_tripNow 32 = .ok (.iload_n 1, 1) := by decide +kernel
theorem dX7_tripNow_33 : decode cX7_tripNow 33 = .ok (.iconst 3, 1) := by decide +kernel
theorem dX7_tripNow_34 : decode cX7_tripNow 34 = .ok (.invokevirtual 49, 3) := by decide +kernel
theorem dX7_tripNow_37 : decode cX7_tripNow 37 = .ok (.iload_n 2, 1) := by decide +kernel
theorem dX7_tripNow_38 : decode cX7_tripNow 38 = .ok (.iadd, 1) := by decide +kernel
theorem dX7_tripNow_39 : decode cX7_tripNow 39 = .ok (.sipush (-200), 3) := by decide +kernel
theorem dX7_tripNow_42 : decode cX7_tripNow 42 = .ok (.sipush 200, 3) := by decide +kernel
theorem dX7_tripNow_45 : decode cX7_tripNow 45 = .ok (.invokestatic 45, 3) := by decide +kernel
theorem dX7_tripNow_48 : decode cX7_tripNow 48 = .ok (.ifCond .eq 51, 3) := by decide +kernel
theorem dX7_tripNow_51 : decode cX7_tripNow 51 = .ok (.aload_n 0, 1) := by decide +kernel
theorem dX7_tripNow_52 : decode cX7_tripNow 52 = .ok (.getfield 7, 3) := by decide +kernel
theorem dX7_tripNow_55 : decode cX7_tripNow 55 = .ok (.iconst 4, 1) := by decide +kernel
theorem dX7_tripNow_56 : decode cX7_tripNow 56 = .ok (.iload_n 1, 1) := by decide +kernel
theorem dX7_tripNow_57 : decode cX7_tripNow 57 = .ok (.imul, 1) := by decide +kernel
theorem dX7_tripNow_58 : decode cX7_tripNow 58 = .ok (.iconst 3, 1) := by decide +kernel
theorem dX7_tripNow_59 : decode cX7_tripNow 59 = .ok (.iadd, 1) := by decide +kernel
theorem dX7_tripNow_60 : decode cX7_tripNow 60 = .ok (.dup2, 1) := by decide +kernel
theorem dX7_tripNow_61 : decode cX7_tripNow 61 = .ok (.iaload, 1) := by decide +kernel
theorem dX7_tripNow_62 : decode cX7_tripNow 62 = .ok (.iload_n 2, 1) := by decide +kernel
theorem dX7_tripNow_63 : decode cX7_tripNow 63 = .ok (.iadd, 1) := by decide +kernel
theorem dX7_tripNow_64 : decode cX7_tripNow 64 = .ok (.iastore, 1) := by decide +kernel
theorem dX7_tripNow_65 : decode cX7_tripNow 65 = .ok (.aload_n 0, 1) := by decide +kernel
theorem dX7_tripNow_66 : decode cX7_tripNow 66 = .ok (.invokevirtual 150, 3) := by decide +kernel
theorem dX7_tripNow_69 : decode cX7_tripNow 69 = .ok (.aload_n 0, 1) := by decide +kernel
theorem dX7_tripNow_70 : decode cX7_tripNow 70 = .ok (.getfield 7, 3) := by decide +kernel
theorem dX7_tripNow_73 : decode cX7_tripNow 73 = .ok (.bipush 50, 2) := by decide +kernel
theorem dX7_tripNow_75 : decode cX7_tripNow 75 = .ok (.iaload, 1) := by decide +kernel
theorem dX7_tripNow_76 : decode cX7_tripNow 76 = .ok (.iload_n 3, 1) := by decide +kernel
theorem dX7_tripNow_77 : decode cX7_tripNow 77 = .ok (.if_icmp .ne 7, 3) := by decide +kernel
theorem dX7_tripNow_80 : decode cX7_tripNow 80 = .ok (.iconst (-1), 1) := by decide +kernel
theorem dX7_tripNow_81 : decode cX7_tripNow 81 = .ok (.goto 13, 3) := by decide +kernel
theorem dX7_tripNow_84 : decode cX7_tripNow 84 = .ok (.aload_n 0, 1) := by decide +kernel
theorem dX7_tripNow_85 : decode cX7_tripNow 85 = .ok (.iload_n 1, 1) := by decide +kernel
theorem dX7_tripNow_86 : decode cX7_tripNow 86 = .ok (.iconst 3, 1) := by decide +kernel
theorem dX7_tripNow_87 : decode cX7_tripNow 87 = .ok (.invokevirtual 49, 3) := by decide +kernel
theorem dX7_tripNow_90 : decode cX7_tripNow 90 = .ok (.sipush 1000, 3) := by decide +kernel
theorem dX7_tripNow_93 : decode cX7_tripNow 93 = .ok (.iadd, 1) := by decide +kernel
theorem dX7_tripNow_94 : decode cX7_tripNow 94 = .ok (.istore 4, 2) := by decide +kernel
theorem dX7_tripNow_96 : decode cX7_tripNow 96 = .ok (.goto (-71), 3) := by decide +kernel
theorem dX7_tripNow_99 : decode cX7_tripNow 99 = .ok (.aload_n 0, 1) := by decide +kernel
theorem dX7_tripNow_100 : decode cX7_tripNow 100 = .ok (.aload_n 0, 1) := by decide +kernel
theorem dX7_tripNow_101 : decode cX7_tripNow 101 = .ok (.getfield 13, 3) := by decide +kernel
theorem dX7_tripNow_104 : decode cX7_tripNow 104 = .ok (.iconst 0, 1) := by decide +kernel
theorem dX7_tripNow_105 : decode cX7_tripNow 105 = .ok (.aload_n 0, 1) := by decide +kernel
theorem dX7_tripNow_106 : decode cX7_tripNow 106 = .ok (.getfield 7, 3) := by decide +kernel
theorem dX7_tripNow_109 : decode cX7_tripNow 109 = .ok (.iconst 0, 1) := by decide +kernel
theorem dX7_tripNow_110 : decode cX7_tripNow 110 = .ok (.invokevirtual 56, 3) := by decide +kernel
theorem dX7_tripNow_113 : decode cX7_tripNow 113 = .ok (.iload 4, 2) := by decide +kernel
theorem dX7_tripNow_115 : decode cX7_tripNow 115 = .ok (.ireturn, 1) := by decide +kernel
theorem dX7_trip_0 : decode cX7_trip 0 = .ok (.aload_n 0, 1) := by decide +kernel
theorem dX7_trip_1 : decode cX7_trip 1 = .ok (.aload_n 0, 1) := by decide +kernel
theorem dX7_trip_2 : decode cX7_trip 2 = .ok (.iload_n 1, 1) := by decide +kernel
theorem dX7_trip_3 : decode cX7_trip 3 = .ok (.invokevirtual 153, 3) := by decide +kernel
theorem dX7_trip_6 : decode cX7_trip 6 = .ok (.ifCond .ne 7, 3) := by decide +kernel
theorem dX7_trip_9 : decode cX7_trip 9 = .ok (.iconst 1, 1) := by decide +kernel
theorem dX7_trip_10 : decode cX7_trip 10 = .ok (.goto 17, 3) := by decide +kernel
theorem dX7_trip_13 : decode cX7_trip 13 = .ok (.aload_n 0, 1) := by decide +kernel
theorem dX7_trip_14 : decode cX7_trip 14 = .ok (.iload_n 1, 1) := by decide +kernel
theorem dX7_trip_15 : decode cX7_trip 15 = .ok (.iconst 1, 1) := by decide +kernel
theorem dX7_trip_16 : decode cX7_trip 16 = .ok (.invokevirtual 60, 3) := by decide +kernel
theorem dX7_trip_19 : decode cX7_trip 19 = .ok (.ifCond .eq 7, 3) := by decide +kernel
theorem dX7_trip_22 : decode cX7_trip 22 = .ok (.iconst 0, 1) := by decide +kernel
theorem dX7_trip_23 : decode cX7_trip 23 = .ok (.goto 4, 3) := by decide +kernel
theorem dX7_trip_26 : decode cX7_trip 26 = .ok (.iconst 2, 1) := by decide +kernel
theorem dX7_trip_27 : decode cX7_trip 27 = .ok (.putfield 41, 3) := by decide +kernel
theorem dX7_trip_30 : decode cX7_trip 30 = .ok (.aload_n 0, 1) := by decide +kernel
theorem dX7_trip_31 : decode cX7_trip 31 = .ok (.getfield 41, 3) := by decide +kernel
theorem dX7_trip_34 : decode cX7_trip 34 = .ok (.ifCond .le 7, 3) := by decide +kernel
theorem dX7_trip_37 : decode cX7_trip 37 = .ok (.iconst 0, 1) := by decide +kernel
theorem dX7_trip_38 : decode cX7_trip 38 = .ok (.goto 17, 3) := by decide +kernel
theorem dX7_trip_41 : decode cX7_trip 41 = .ok (.aload_n 0, 1) := by decide +kernel
theorem dX7_trip_42 : decode cX7_trip 42 = .ok (.iload_n 1, 1) := by decide +kernel
theorem dX7_trip_43 : decode cX7_trip 43 = .ok (.iload_n 2, 1) := by decide +kernel
theorem dX7_trip_44 : decode cX7_trip 44 = .ok (.ifCond .eq 7, 3) := by decide +kernel
theorem dX7_trip_47 : decode cX7_trip 47 = .ok (.iconst 1, 1) := by decide +kernel
theorem dX7_trip_48 : decode cX7_trip 48 = .ok (.goto 4, 3) := by decide +kernel
theorem dX7_trip_51 : decode cX7_trip 51 = .ok (.iconst (-1), 1) := by decide +kernel
theorem dX7_trip_52 : decode cX7_trip 52 = .ok (.invokevirtual 247, 3) := by decide +kernel
theorem dX7_trip_55 : decode cX7_trip 55 = .ok (.ireturn, 1) := by decide +kernel
theorem dX7_ifValue_0 : decode cX7_ifValue 0 = .ok (.aload_n 0, 1) := by decide +kernel
theorem dX7_ifValue_1 : decode cX7_ifValue 1 = .ok (.aload_n 0, 1) := by decide +kernel
theorem dX7_ifValue_2 : decode cX7_ifValue 2 = .ok (.iload_n 1, 1) := by decide +kernel
theorem dX7_ifValue_3 : decode cX7_ifValue 3 = .ok (.invokevirtual 153, 3) := by decide +kernel
theorem dX7_ifValue_6 : decode cX7_ifValue 6 = .ok (.ifCond .ne 7, 3) := by decide +kernel
theorem dX7_ifValue_9 : decode cX7_ifValue 9 = .ok (.iconst 1, 1) := by decide +kernel
theorem dX7_ifValue_10 : decode cX7_ifValue 10 = .ok (.goto 30, 3) := by decide +kernel
theorem dX7_ifValue_13 : decode cX7_ifValue 13 = .ok (.aload_n 0, 1) := by decide +kernel
theorem dX7_ifValue_14 : decode cX7_ifValue 14 = .ok (.iload_n 1, 1) := by decide +kernel
theorem dX7_ifValue_15 : decode cX7_ifValue 15 = .ok (.iconst 2, 1) := by decide +kernel
theorem dX7_ifValue_16 : decode cX7_ifValue 16 = .ok (.invokevirtual 60, 3) := by decide +kernel
theorem dX7_ifValue_19 : decode cX7_ifValue 19 = .ok (.ifCond .eq 7, 3) := by decide +kernel
theorem dX7_ifValue_22 : decode cX7_ifValue 22 = .ok (.iconst 2, 1) := by decide +kernel
theorem dX7_ifValue_23 : decode cX7_ifValue 23 = .ok (.goto 17, 3) := by decide +kernel
theorem dX7_ifValue_26 : decode cX7_ifValue 26 = .ok (.aload_n 0, 1) := by decide +kernel
theorem dX7_ifValue_27 : decode cX7_ifValue 27 = .ok (.iload_n 1, 1) := by decide +kernel
theorem dX7_ifValue_28 : decode cX7_ifValue 28 = .ok (.iload_n 2, 1) := by decide +kernel
theorem dX7_ifValue_29 : decode cX7_ifValue 29 = .ok (.invokevirtual 156, 3) := by decide +kernel
theorem dX7_ifValue_32 : decode cX7_ifValue 32 = .ok (.ifCond .eq 7, 3) := by decide +kernel
theorem dX7_ifValue_35 : decode cX7_ifValue 35 = .ok (.iconst 0, 1) := by decide +kernel
theorem dX7_ifValue_36 : decode cX7_ifValue 36 = .ok (.goto 4, 3) := by decide +kernel
theorem dX7_ifValue_39 : decode cX7_ifValue 39 = .ok (.iconst 3, 1) := by decide +kernel
theorem dX7_ifValue_40 : decode cX7_ifValue 40 = .ok (.putfield 41, 3) := by decide +kernel
theorem dX7_ifValue_43 : decode cX7_ifValue 43 = .ok (.aload_n 0, 1) := by decide +kernel
theorem dX7_ifValue_44 : decode cX7_ifValue 44 = .ok (.getfield 41, 3) := by decide +kernel
theorem dX7_ifValue_47 : decode cX7_ifValue 47 = .ok (.ifCond .le 5, 3) := by decide +kernel
theorem dX7_ifValue_50 : decode cX7_ifValue 50 = .ok (.iconst 0, 1) := by decide +kernel
theorem dX7_ifValue_51 : decode cX7_ifValue 51 = .ok (.ireturn, 1) := by decide +kernel
theorem dX7_ifValue_52 : decode cX7_ifValue 52 = .ok (.aload_n 0, 1) := by decide +kernel
theorem dX7_ifValue_53 : decode cX7_ifValue 53 = .ok (.aload_n 0, 1) := by decide +kernel
theorem dX7_ifValue_54 : decode cX7_ifValue 54 = .ok (.getfield 7, 3) := by decide +kernel
theorem dX7_ifValue_57 : decode cX7_ifValue 57 = .ok (.iconst 0, 1) := by decide +kernel
theorem dX7_ifValue_58 : decode cX7_ifValue 58 = .ok (.aload_n 0, 1) := by decide +kernel
theorem dX7_ifValue_59 : decode cX7_ifValue 59 = .ok (.getfield 13, 3) := by decide +kernel
theorem dX7_ifValue_62 : decode cX7_ifValue 62 = .ok (.iconst 0, 1) := by decide +kernel
theorem dX7_ifValue_63 : decode cX7_ifValue 63 = .ok (.invokevirtual 56, 3) := by decide +kernel
theorem dX7_ifValue_66 : decode cX7_ifValue 66 = .ok (.aload_n 0, 1) := by decide +kernel
theorem dX7_ifValue_67 : decode cX7_ifValue 67 = .ok (.getfield 7, 3) := by decide +kernel
theorem dX7_ifValue_70 : decode cX7_ifValue 70 = .ok (.iconst 4, 1) := by decide +kernel
theorem dX7_ifValue_71 : decode cX7_ifValue 71 = .ok (.iload_n 1, 1) := by decide +kernel
theorem dX7_ifValue_72 : decode cX7_ifValue 72 = .ok (.imul, 1) := by decide +kernel
theorem dX7_ifValue_73 : decode cX7_ifValue 73 = .ok (.iconst 3, 1) := by decide +kernel
theorem dX7_ifValue_74 : decode cX7_ifValue 74 = .ok (.iadd, 1) := by decide +kernel
theorem dX7_ifValue_75 : decode cX7_ifValue 75 = .ok (.iload_n 2, 1) := by decide +kernel
theorem dX7_ifValue_76 : decode cX7_ifValue 76 = .ok (.iastore, 1) := by decide +kernel
theorem dX7_ifValue_77 : decode cX7_ifValue 77 = .ok (.aload_n 0, 1) := by decide +kernel
theorem dX7_ifValue_78 : decode cX7_ifValue 78 = .ok (.invokevirtual 150, 3) := by decide +kernel
theorem dX7_ifValue_81 : decode cX7_ifValue 81 = .ok (.aload_n 0, 1) := by decide +kernel
theorem dX7_ifValue_82 : decode cX7_ifValue 82 = .ok (.getfield 7, 3) := by decide +kernel
theorem dX7_ifValue_85 : decode cX7_ifValue 85 = .ok (.bipush 51, 2) := by decide +kernel
theorem dX7_ifValue_87 : decode cX7_ifValue 87 = .ok (.iaload, 1) := by decide +kernel
theorem dX7_ifValue_88 : decode cX7_ifValue 88 = .ok (.iconst 1, 1) := by decide +kernel
theorem dX7_ifValue_89 : decode cX7_ifValue 89 = .ok (.if_icmp .ne 13, 3) := by decide +kernel
theorem dX7_ifValue_92 : decode cX7_ifValue 92 = .ok (.aload_n 0, 1) := by decide +kernel
theorem dX7_ifValue_93 : decode cX7_ifValue 93 = .ok (.getfield 7, 3) := by decide +kernel
theorem dX7_ifValue_96 : decode cX7_ifValue 96 = .ok (.bipush 50, 2) := by decide +kernel
theorem dX7_ifValue_98 : decode cX7_ifValue 98 = .ok (.iaload, 1) := by decide +kernel
theorem dX7_ifValue_99 : decode cX7_ifValue 99 = .ok (.goto 4, 3) := by decide +kernel
theorem dX7_ifValue_102 : decode cX7_ifValue 102 = .ok (.iconst (-1), 1) := by decide +kernel
theorem dX7_ifValue_103 : decode cX7_ifValue 103 = .ok (.istore_n 3, 1) := by decide +kernel
theorem dX7_ifValue_104 : decode cX7_ifValue 104 = .ok (.aload_n 0, 1) := by decide +kernel
theorem dX7_ifValue_105 : decode cX7_ifValue 105 = .ok (.aload_n 0, 1) := by decide +kernel
theorem dX7_ifValue_106 : decode cX7_ifValue 106 = .ok (.getfield 13, 3) := by decide +kernel
theorem dX7_ifValue_109 : decode cX7_ifValue 109 = .ok (.iconst 0, 1) := by decide +kernel
theorem dX7_ifValue_110 : decode cX7_ifValue 110 = .ok (.aload_n 0, 1) := by decide +kernel
theorem dX7_ifValue_111 : decode cX7_ifValue 111 = .ok (.getfield 7, 3) := by decide +kernel
theorem dX7_ifValue_114 : decode cX7_ifValue 114 = .ok (.iconst 0, 1) := by decide +kernel
theorem dX7_ifValue_115 : decode cX7_ifValue 115 = .ok (.invokevirtual 56, 3) := by decide +kernel
theorem dX7_ifValue_118 : decode cX7_ifValue 118 = .ok (.iload_n 3, 1) := by decide +kernel
theorem dX7_ifValue_119 : decode cX7_ifValue 119 = .ok (.ireturn, 1) := by decide +kernel
theorem dX7_part_0 : decode cX7_part 0 = .ok (.aload_n 0, 1) := by decide +kernel
theorem dX7_part_1 : decode cX7_part 1 = .ok (.aload_n 0, 1) := by decide +kernel
theorem dX7_part_2 : decode cX7_part 2 = .ok (.iload_n 1, 1) := by decide +kernel
theorem dX7_part_3 : decode cX7_part 3 = .ok (.invokevirtual 153, 3) := by decide +kernel
theorem dX7_part_6 : decode cX7_part 6 = .ok (.ifCond .ne 7, 3) := by decide +kernel
theorem dX7_part_9 : decode cX7_part 9 = .ok (.iconst 1, 1) := by decide +kernel
theorem dX7_part_10 : decode cX7_part 10 = .ok (.goto 17, 3) := by decide +kernel
theorem dX7_part_13 : decode cX7_part 13 = .ok (.iload_n 2, 1) := by decide +kernel
theorem dX7_part_14 : decode cX7_part 14 = .ok (.iconst 0, 1) := by decide +kernel
theorem dX7_part_15 : decode cX7_part 15 = .ok (.iconst 3, 1) := by decide +kernel
theorem dX7_part_16 : decode cX7_part 16 = .ok (.invokestatic 45, 3) := by decide +kernel
theorem dX7_part_19 : decode cX7_part 19 = .ok (.ifCond .eq 7, 3) := by decide +kernel
theorem dX7_part_22 : decode cX7_part 22 = .ok (.iconst 0, 1) := by decide +kernel
theorem dX7_part_23 : decode cX7_part 23 = .ok (.goto 4, 3) := by decide +kernel
theorem dX7_part_26 : decode cX7_part 26 = .ok (.iconst 2, 1) := by decide +kernel
theorem dX7_part_27 : decode cX7_part 27 = .ok (.putfield 41, 3) := by decide +kernel
theorem dX7_part_30 : decode cX7_part 30 = .ok (.aload_n 0, 1) := by decide +kernel
theorem dX7_part_31 : decode cX7_part 31 = .ok (.getfield 41, 3) := by decide +kernel
theorem dX7_part_34 : decode cX7_part 34 = .ok (.ifCond .le 7, 3) := by decide +kernel
theorem dX7_part_37 : decode cX7_part 37 = .ok (.iconst 0, 1) := by decide +kernel
theorem dX7_part_38 : decode cX7_part 38 = .ok (.goto 9, 3) := by decide +kernel
theorem dX7_part_41 : decode cX7_part 41 = .ok (.aload_n 0, 1) := by decide +kernel
theorem dX7_part_42 : decode cX7_part 42 = .ok (.iload_n 1, 1) := by decide +kernel
theorem dX7_part_43 : decode cX7_part 43 = .ok (.iload_n 2, 1) := by decide +kernel
theorem dX7_part_44 : decode cX7_part 44 = .ok (.invokevirtual 49, 3) := by decide +kernel
theorem dX7_part_47 : decode cX7_part 47 = .ok (.ireturn, 1) := by decide +kernel
theorem dX7_casesThat_0 : decode cX7_casesThat 0 = .ok (.iconst 0, 1) := by decide +kernel
theorem dX7_casesThat_1 : decode cX7_casesThat 1 = .ok (.istore_n 2, 1) := by decide +kernel
theorem dX7_casesThat_2 : decode cX7_casesThat 2 = .ok (.aload_n 0, 1) := by decide +kernel
theorem dX7_casesThat_3 : decode cX7_casesThat 3 = .ok (.invokevirtual 138, 3) := by decide +kernel
theorem dX7_casesThat_6 : decode cX7_casesThat 6 = .ok (.istore_n 3, 1) := by decide +kernel
theorem dX7_casesThat_7 : decode cX7_casesThat 7 = .ok (.iconst 0, 1) := by decide +kernel
theorem dX7_casesThat_8 : decode cX7_casesThat 8 = .ok (.istore 4, 2) := by decide +kernel
theorem dX7_casesThat_10 : decode cX7_casesThat 10 = .ok (.iload 4, 2) := by decide +kernel
theorem dX7_casesThat_12 : decode cX7_casesThat 12 = .ok (.iload_n 3, 1) := by decide +kernel
theorem dX7_casesThat_13 : decode cX7_casesThat 13 = .ok (.if_icmp .ge 44, 3) := by decide +kernel
theorem dX7_casesThat_16 : decode cX7_casesThat 16 = .ok (.aload_n 0, 1) := by decide +kernel
theorem dX7_casesThat_17 : decode cX7_casesThat 17 = .ok (.iload 4, 2) := by decide +kernel
theorem dX7_casesThat_19 : decode cX7_casesThat 19 = .ok (.invokevirtual 144, 3) := by decide +kernel
theorem dX7_casesThat_22 : decode cX7_casesThat 22 = .ok (.istore 5, 2) := by decide +kernel
theorem dX7_casesThat_24 : decode cX7_casesThat 24 = .ok (.iload_n 2, 1) := by decide +kernel
theorem dX7_casesThat_25 : decode cX7_casesThat 25 = .ok (.iload_n 1, 1) := by decide +kernel
theorem dX7_casesThat_26 : decode cX7_casesThat 26 = .ok (.ifCond .eq 8, 3) := by decide +kernel
theorem dX7_casesThat_29 : decode cX7_casesThat 29 = .ok (.iload 5, 2) := by decide +kernel
theorem dX7_casesThat_31 : decode cX7_casesThat 31 = .ok (.ifCond .eq 13, 3) := by decide +kernel
theorem dX7_casesThat_34 : decode cX7_casesThat 34 = .ok (.iload_n 1, 1) := by decide +kernel
theorem dX7_casesThat_35 : decode cX7_casesThat 35 = .ok (.ifCond .ne 13, 3) := by decide +kernel
theorem dX7_casesThat_38 : decode cX7_casesThat 38 = .ok (.iload 5, 2) := by decide +kernel
theorem dX7_casesThat_40 : decode cX7_casesThat 40 = .ok (.iconst 1, 1) := by decide +kernel
theorem dX7_casesThat_41 : decode cX7_casesThat 41 = .ok (.if_icmp .eq 7, 3) := by decide +kernel
theorem dX7_casesThat_44 : decode cX7_casesThat 44 = .ok (.iconst 1, 1) := by decide +kernel
theorem dX7_casesThat_45 : decode cX7_casesThat 45 = .ok (.goto 4, 3) := by decide +kernel
theorem dX7_casesThat_48 : decode cX7_casesThat 48 = .ok (.iconst 0, 1) := by decide +kernel
theorem dX7_casesThat_49 : decode cX7_casesThat 49 = .ok (.iadd, 1) := by decide +kernel
theorem dX7_casesThat_50 : decode cX7_casesThat 50 = .ok (.istore_n 2, 1) := by decide +kernel
theorem dX7_casesThat_51 : decode cX7_casesThat 51 = .ok (.iinc 4 1, 3) := by decide +kernel
theorem dX7_casesThat_54 : decode cX7_casesThat 54 = .ok (.goto (-44), 3) := by decide +kernel
theorem dX7_casesThat_57 : decode cX7_casesThat 57 = .ok (.iload_n 2, 1) := by decide +kernel
theorem dX7_casesThat_58 : decode cX7_casesThat 58 = .ok (.ireturn, 1) := by decide +kernel
theorem dX7_usedNodes_0 : decode cX7_usedNodes 0 = .ok (.iconst 0, 1) := by decide +kernel
theorem dX7_usedNodes_1 : decode cX7_usedNodes 1 = .ok (.istore_n 1, 1) := by decide +kernel
theorem dX7_usedNodes_2 : decode cX7_usedNodes 2 = .ok (.iconst 1, 1) := by decide +kernel
theorem dX7_usedNodes_3 : decode cX7_usedNodes 3 = .ok (.istore_n 2, 1) := by decide +kernel
theorem dX7_usedNodes_4 : decode cX7_usedNodes 4 = .ok (.iload_n 2, 1) := by decide +kernel
theorem dX7_usedNodes_5 : decode cX7_usedNodes 5 = .ok (.bipush 7, 2) := by decide +kernel
theorem dX7_usedNodes_7 : decode cX7_usedNodes 7 = .ok (.if_icmp .ge 27, 3) := by decide +kernel
theorem dX7_usedNodes_10 : decode cX7_usedNodes 10 = .ok (.iload_n 1, 1) := by decide +kernel
theorem dX7_usedNodes_11 : decode cX7_usedNodes 11 = .ok (.aload_n 0, 1) := by decide +kernel
theorem dX7_usedNodes_12 : decode cX7_usedNodes 12 = .ok (.iload_n 2, 1) := by decide +kernel
theorem dX7_usedNodes_13 : decode cX7_usedNodes 13 = .ok (.invokevirtual 71, 3) := by decide +kernel
theorem dX7_usedNodes_16 : decode cX7_usedNodes 16 = .ok (.ifCond .eq 9, 3) := by decide +kernel
theorem dX7_usedNodes_19 : decode cX7_usedNodes 19 = .ok (.iconst 1, 1) := by decide +kernel
theorem dX7_usedNodes_20 : decode cX7_usedNodes 20 = .ok (.iload_n 2, 1) := by decide +kernel
theorem dX7_usedNodes_21 : decode cX7_usedNodes 21 = .ok (.ishl, 1) := by decide +kernel
theorem dX7_usedNodes_22 : decode cX7_usedNodes 22 = .ok (.goto 4, 3) := by decide +kernel
theorem dX7_usedNodes_25 : decode cX7_usedNodes 25 = .ok (.iconst 0, 1) := by decide +kernel
theorem dX7_usedNodes_26 : decode cX7_usedNodes 26 = .ok (.ior, 1) := by decide +kernel
theorem dX7_usedNodes_27 : decode cX7_usedNodes 27 = .ok (.istore_n 1, 1) := by decide +kernel
theorem dX7_usedNodes_28 : decode cX7_usedNodes 28 = .ok (.iinc 2 1, 3) := by decide +kernel
theorem dX7_usedNodes_31 : decode cX7_usedNodes 31 = .ok (.goto (-27), 3) := by decide +kernel
theorem dX7_usedNodes_34 : decode cX7_usedNodes 34 = .ok (.iload_n 1, 1) := by decide +kernel
theorem dX7_usedNodes_35 : decode cX7_usedNodes 35 = .ok (.ireturn, 1) := by decide +kernel
theorem dX7_counted_0 : decode cX7_counted 0 = .ok (.iload_n 1, 1) := by decide +kernel
theorem dX7_counted_1 : decode cX7_counted 1 = .ok (.tableswitch 110 0 8 #[51, 59, 64, 72, 80, 88, 94, 100, 105], 51) := by decide +kernel
theorem dX7_counted_52 : decode cX7_counted 52 = .ok (.aload_n 0, 1) := by decide +kernel
theorem dX7_counted_53 : decode cX7_counted 53 = .ok (.getfield 7, 3) := by decide +kernel
theorem dX7_counted_56 : decode cX7_counted 56 = .ok (.bipush 48, 2) := by decide +kernel
theorem dX7_counted_58 : decode cX7_counted 58 = .ok (.iaload, 1) := by decide +kernel
theorem dX7_counted_59 : decode cX7_counted 59 = .ok (.ireturn, 1) := by decide +kernel
theorem dX7_counted_60 : decode cX7_counted 60 = .ok (.aload_n 0, 1) := by decide +kernel
theorem dX7_counted_61 : decode cX7_counted 61 = .ok (.invokevirtual 64, 3) := by decide +kernel
theorem dX7_counted_64 : decode cX7_counted 64 = .ok (.ireturn, 1) := by decide +kernel
theorem dX7_counted_65 : decode cX7_counted 65 = .ok (.aload_n 0, 1) := by decide +kernel
theorem dX7_counted_66 : decode cX7_counted 66 = .ok (.getfield 7, 3) := by decide +kernel
theorem dX7_counted_69 : decode cX7_counted 69 = .ok (.bipush 49, 2) := by decide +kernel
theorem dX7_counted_71 : decode cX7_counted 71 = .ok (.iaload, 1) := by decide +kernel
theorem dX7_counted_72 : decode cX7_counted 72 = .ok (.ireturn, 1) := by decide +kernel
theorem dX7_counted_73 : decode cX7_counted 73 = .ok (.aload_n 0, 1) := by decide +kernel
theorem dX7_counted_74 : decode cX7_counted 74 = .ok (.getfield 7, 3) := by decide +kernel
theorem dX7_counted_77 : decode cX7_counted 77 = .ok (.bipush 50, 2) := by decide +kernel
theorem dX7_counted_79 : decode cX7_counted 79 = .ok (.iaload, 1) := by decide +kernel
theorem dX7_counted_80 : decode cX7_counted 80 = .ok (.ireturn, 1) := by decide +kernel
theorem dX7_counted_81 : decode cX7_counted 81 = .ok (.aload_n 0, 1) := by decide +kernel
theorem dX7_counted_82 : decode cX7_counted 82 = .ok (.getfield 7, 3) := by decide +kernel
theorem dX7_counted_85 : decode cX7_counted 85 = .ok (.bipush 51, 2) := by decide +kernel
theorem dX7_counted_87 : decode cX7_counted 87 = .ok (.iaload, 1) := by decide +kernel
theorem dX7_counted_88 : decode cX7_counted 88 = .ok (.ireturn, 1) := by decide +kernel
theorem dX7_counted_89 : decode cX7_counted 89 = .ok (.aload_n 0, 1) := by decide +kernel
theorem dX7_counted_90 : decode cX7_counted 90 = .ok (.iconst 1, 1) := by decide +kernel
theorem dX7_counted_91 : decode cX7_counted 91 = .ok (.invokevirtual 250, 3) := by decide +kernel
theorem dX7_counted_94 : decode cX7_counted 94 = .ok (.ireturn, 1) := by decide +kernel
theorem dX7_counted_95 : decode cX7_counted 95 = .ok (.aload_n 0, 1) := by decide +kernel
theorem dX7_counted_96 : decode cX7_counted 96 = .ok (.iconst 0, 1) := by decide +kernel
theorem dX7_counted_97 : decode cX7_counted 97 = .ok (.invokevirtual 250, 3) := by decide +kernel
theorem dX7_counted_100 : decode cX7_counted 100 = .ok (.ireturn, 1) := by decide +kernel
theorem dX7_counted_101 : decode cX7_counted 101 = .ok (.aload_n 0, 1) := by decide +kernel
theorem dX7_counted_102 : decode cX7_counted 102 = .ok (.invokevirtual 254, 3) := by decide +kernel
theorem dX7_counted_105 : decode cX7_counted 105 = .ok (.ireturn, 1) := by decide +kernel
theorem dX7_counted_106 : decode cX7_counted 106 = .ok (.aload_n 0, 1) := by decide +kernel
theorem dX7_counted_107 : decode cX7_counted 107 = .ok (.getfield 53, 3) := by decide +kernel
theorem dX7_counted_110 : decode cX7_counted 110 = .ok (.ireturn, 1) := by decide +kernel
theorem dX7_counted_111 : decode cX7_counted 111 = .ok (.aload_n 0, 1) := by decide +kernel
theorem dX7_counted_112 : decode cX7_counted 112 = .ok (.getfield 163, 3) := by decide +kernel
theorem dX7_counted_115 : decode cX7_counted 115 = .ok (.ireturn, 1) := by decide +kernel
theorem dX7_count_0 : decode cX7_count 0 = .ok (.aload_n 0, 1) := by decide +kernel
theorem dX7_count_1 : decode cX7_count 1 = .ok (.iload_n 1, 1) := by decide +kernel
theorem dX7_count_2 : decode cX7_count 2 = .ok (.iconst 0, 1) := by decide +kernel
theorem dX7_count_3 : decode cX7_count 3 = .ok (.bipush 9, 2) := by decide +kernel
theorem dX7_count_5 : decode cX7_count 5 = .ok (.invokestatic 45, 3) := by decide +kernel
theorem dX7_count_8 : decode cX7_count 8 = .ok (.ifCond .eq 7, 3) := by decide +kernel
theorem dX7_count_11 : decode cX7_count 11 = .ok (.iconst 0, 1) := by decide +kernel
theorem dX7_count_12 : decode cX7_count 12 = .ok (.goto 4, 3) := by decide +kernel
theorem dX7_count_15 : decode cX7_count 15 = .ok (.iconst 1, 1) := by decide +kernel
theorem dX7_count_16 : decode cX7_count 16 = .ok (.putfield 41, 3) := by decide +kernel
theorem dX7_count_19 : decode cX7_count 19 = .ok (.aload_n 0, 1) := by decide +kernel
theorem dX7_count_20 : decode cX7_count 20 = .ok (.getfield 41, 3) := by decide +kernel
theorem dX7_count_23 : decode cX7_count 23 = .ok (.ifCond .le 7, 3) := by decide +kernel
theorem dX7_count_26 : decode cX7_count 26 = .ok (.iconst 0, 1) := by decide +kernel
theorem dX7_count_27 : decode cX7_count 27 = .ok (.goto 8, 3) := by decide +kernel
theorem dX7_count_30 : decode cX7_count 30 = .ok (.aload_n 0, 1) := by decide +kernel
theorem dX7_count_31 : decode cX7_count 31 = .ok (.iload_n 1, 1) := by decide +kernel
theorem dX7_count_32 : decode cX7_count 32 = .ok (.invokevirtual 257, 3) := by decide +kernel
theorem dX7_count_35 : decode cX7_count 35 = .ok (.ireturn, 1) := by decide +kernel
theorem dX7_meanNow_0 : decode cX7_meanNow 0 = .ok (.dconst 0, 1) := by decide +kernel
theorem dX7_meanNow_1 : decode cX7_meanNow 1 = .ok (.dstore_n 1, 1) := by decide +kernel
theorem dX7_meanNow_2 : decode cX7_meanNow 2 = .ok (.iconst 0, 1) := by decide +kernel
theorem dX7_meanNow_3 : decode cX7_meanNow 3 = .ok (.istore_n 3, 1) := by decide +kernel
theorem dX7_meanNow_4 : decode cX7_meanNow 4 = .ok (.iconst 1, 1) := by decide +kernel
theorem dX7_meanNow_5 : decode cX7_meanNow 5 = .ok (.istore 4, 2) := by decide +kernel
theorem dX7_meanNow_7 : decode cX7_meanNow 7 = .ok (.iload 4, 2) := by decide +kernel
theorem dX7_meanNow_9 : decode cX7_meanNow 9 = .ok (.bipush 7, 2) := by decide +kernel
theorem dX7_meanNow_11 : decode cX7_meanNow 11 = .ok (.if_icmp .ge 52, 3) := by decide +kernel
theorem dX7_meanNow_14 : decode cX7_meanNow 14 = .ok (.aload_n 0, 1) := by decide +kernel
theorem dX7_meanNow_15 : decode cX7_meanNow 15 = .ok (.getfield 7, 3) := by decide +kernel
theorem dX7_meanNow_18 : decode cX7_meanNow 18 = .ok (.bipush 51, 2) := by decide +kernel
theorem dX7_meanNow_20 : decode cX7_meanNow 20 = .ok (.iaload, 1) := by decide +kernel
theorem dX7_meanNow_21 : decode cX7_meanNow 21 = .ok (.iconst 1, 1) := by decide +kernel
theorem dX7_meanNow_22 : decode cX7_meanNow 22 = .ok (.if_icmp .ne 35, 3) := by decide +kernel
theorem dX7_meanNow_25 : decode cX7_meanNow 25 = .ok (.aload_n 0, 1) := by decide +kernel
theorem dX7_meanNow_26 : decode cX7_meanNow 26 = .ok (.iload 4, 2) := by decide +kernel
theorem dX7_meanNow_28 : decode cX7_meanNow 28 = .ok (.invokevirtual 71, 3) := by decide +kernel
theorem dX7_meanNow_31 : decode cX7_meanNow 31 = .ok (.ifCond .eq 26, 3) := by decide +kernel
theorem dX7_meanNow_34 : decode cX7_meanNow 34 = .ok (.dload_n 1, 1) := by decide +kernel
theorem dX7_meanNow_35 : decode cX7_meanNow 35 = .ok (.aload_n 0, 1) := by decide +kernel
theorem dX7_meanNow_36 : decode cX7_meanNow 36 = .ok (.iload 4, 2) := by decide +kernel
theorem dX7_meanNow_38 : decode cX7_meanNow 38 = .ok (.iconst 0, 1) := by decide +kernel
theorem dX7_meanNow_39 : decode cX7_meanNow 39 = .ok (.invokevirtual 231, 3) := by decide +kernel
theorem dX7_meanNow_42 : decode cX7_meanNow 42 = .ok (.l2d, 1) := by decide +kernel
theorem dX7_meanNow_43 : decode cX7_meanNow 43 = .ok (.aload_n 0, 1) := by decide +kernel
theorem dX7_meanNow_44 : decode cX7_meanNow 44 = .ok (.iload 4, 2) := by decide +kernel
theorem dX7_meanNow_46 : decode cX7_meanNow 46 = .ok (.iconst 1, 1) := by decide +kernel
theorem dX7_meanNow_47 : decode cX7_meanNow 47 = .ok (.invokevirtual 231, 3) := by decide +kernel
theorem dX7_meanNow_50 : decode cX7_meanNow 50 = .ok (.l2d, 1) := by decide +kernel
theorem dX7_meanNow_51 : decode cX7_meanNow 51 = .ok (.ddiv, 1) := by decide +kernel
theorem dX7_meanNow_52 : decode cX7_meanNow 52 = .ok (.dadd, 1) := by decide +kernel
theorem dX7_meanNow_53 : decode cX7_meanNow 53 = .ok (.dstore_n 1, 1) := by decide +kernel
theorem dX7_meanNow_54 : decode cX7_meanNow 54 = .ok (.iinc 3 1, 3) := by decide +kernel
theorem dX7_meanNow_57 : decode cX7_meanNow 57 = .ok (.iinc 4 1, 3) := by decide +kernel
theorem dX7_meanNow_60 : decode cX7_meanNow 60 = .ok (.goto (-53), 3) := by decide +kernel
theorem dX7_meanNow_63 : decode cX7_meanNow 63 = .ok (.iload_n 3, 1) := by decide +kernel
theorem dX7_meanNow_64 : decode cX7_meanNow 64 = .ok (.ifCond .ne 7, 3) := by decide +kernel
theorem dX7_meanNow_67 : decode cX7_meanNow 67 = .ok (.dconst 0, 1) := by decide +kernel
theorem dX7_meanNow_68 : decode cX7_meanNow 68 = .ok (.goto 7, 3) := by decide +kernel
theorem dX7_meanNow_71 : decode cX7_meanNow 71 = .ok (.dload_n 1, 1) := by decide +kernel
theorem dX7_meanNow_72 : decode cX7_meanNow 72 = .ok (.iload_n 3, 1) := by decide +kernel
theorem dX7_meanNow_73 : decode cX7_meanNow 73 = .ok (.i2d, 1) := by decide +kernel
theorem dX7_meanNow_74 : decode cX7_meanNow 74 = .ok (.ddiv, 1) := by decide +kernel
theorem dX7_meanNow_75 : decode cX7_meanNow 75 = .ok (.dreturn, 1) := by decide +kernel
theorem dX7_meanVoltage_0 : decode cX7_meanVoltage 0 = .ok (.aload_n 0, 1) := by decide +kernel
theorem dX7_meanVoltage_1 : decode cX7_meanVoltage 1 = .ok (.iconst 0, 1) := by decide +kernel
theorem dX7_meanVoltage_2 : decode cX7_meanVoltage 2 = .ok (.putfield 41, 3) := by decide +kernel
theorem dX7_meanVoltage_5 : decode cX7_meanVoltage 5 = .ok (.aload_n 0, 1) := by decide +kernel
theorem dX7_meanVoltage_6 : decode cX7_meanVoltage 6 = .ok (.invokevirtual 260, 3) := by decide +kernel
theorem dX7_meanVoltage_9 : decode cX7_meanVoltage 9 = .ok (.dreturn, 1) := by decide +kernel
theorem dX7_mix_0 : decode cX7_mix 0 = .ok (.aload_n 0, 1) := by decide +kernel
theorem dX7_mix_1 : decode cX7_mix 1 = .ok (.ldc2_w 264, 3) := by decide +kernel
theorem dX7_mix_4 : decode cX7_mix 4 = .ok (.aload_n 0, 1) := by decide +kernel
theorem dX7_mix_5 : decode cX7_mix 5 = .ok (.getfield 266, 3) := by decide +kernel
theorem dX7_mix_8 : decode cX7_mix 8 = .ok (.lmul, 1) := by decide +kernel
theorem dX7_mix_9 : decode cX7_mix 9 = .ok (.lload_n 1, 1) := by decide +kernel
theorem dX7_mix_10 : decode cX7_mix 10 = .ok (.ladd, 1) := by decide +kernel
theorem dX7_mix_11 : decode cX7_mix 11 = .ok (.putfield 266, 3) := by decide +kernel
theorem dX7_mix_14 : decode cX7_mix 14 = .ok (.return_, 1) := by decide +kernel
theorem dX7_digest_0 : decode cX7_digest 0 = .ok (.aload_n 0, 1) := by decide +kernel
theorem dX7_digest_1 : decode cX7_digest 1 = .ok (.iconst 0, 1) := by decide +kernel
theorem dX7_digest_2 : decode cX7_digest 2 = .ok (.putfield 41, 3) := by decide +kernel
theorem dX7_digest_5 : decode cX7_digest 5 = .ok (.aload_n 0, 1) := by decide +kernel
theorem dX7_digest_6 : decode cX7_digest 6 = .ok (.ldc2_w 269, 3) := by decide +kernel
theorem dX7_digest_9 : decode cX7_digest 9 = .ok (.putfield 266, 3) := by decide +kernel
theorem dX7_digest_12 : decode cX7_digest 12 = .ok (.iconst 0, 1) := by decide +kernel
theorem dX7_digest_13 : decode cX7_digest 13 = .ok (.istore_n 1, 1) := by decide +kernel
theorem dX7_digest_14 : decode cX7_digest 14 = .ok (.iload_n 1, 1) := by decide +kernel
theorem dX7_digest_15 : decode cX7_digest 15 = .ok (.bipush 10, 2) := by decide +kernel
theorem dX7_digest_17 : decode cX7_digest 17 = .ok (.if_icmp .ge 19, 3) := by decide +kernel
theorem dX7_digest_20 : decode cX7_digest 20 = .ok (.aload_n 0, 1) := by decide +kernel
theorem dX7_digest_21 : decode cX7_digest 21 = .ok (.aload_n 0, 1) := by decide +kernel
theorem dX7_digest_22 : decode cX7_digest 22 = .ok (.iload_n 1, 1) := by decide +kernel
theorem dX7_digest_23 : decode cX7_digest 23 = .ok (.invokevirtual 257, 3) := by decide +kernel
theorem dX7_digest_26 : decode cX7_digest 26 = .ok (.i2l, 1) := by decide +kernel
theorem dX7_digest_27 : decode cX7_digest 27 = .ok (.invokevirtual 271, 3) := by decide +kernel
theorem dX7_digest_30 : decode cX7_digest 30 = .ok (.iinc 1 1, 3) := by decide +kernel
theorem dX7_digest_33 : decode cX7_digest 33 = .ok (.goto (-19), 3) := by decide +kernel
theorem dX7_digest_36 : decode cX7_digest 36 = .ok (.iconst 0, 1) := by decide +kernel
theorem dX7_digest_37 : decode cX7_digest 37 = .ok (.istore_n 1, 1) := by decide +kernel
theorem dX7_digest_38 : decode cX7_digest 38 = .ok (.iload_n 1, 1) := by decide +kernel
theorem dX7_digest_39 : decode cX7_digest 39 = .ok (.iconst 4, 1) := by decide +kernel
theorem dX7_digest_40 : decode cX7_digest 40 = .ok (.aload_n 0, 1) := by decide +kernel
theorem dX7_digest_41 : decode cX7_digest 41 = .ok (.getfield 7, 3) := by decide +kernel
theorem dX7_digest_44 : decode cX7_digest 44 = .ok (.bipush 48, 2) := by decide +kernel
theorem dX7_digest_46 : decode cX7_digest 46 = .ok (.iaload, 1) := by decide +kernel
theorem dX7_digest_47 : decode cX7_digest 47 = .ok (.imul, 1) := by decide +kernel
theorem dX7_digest_48 : decode cX7_digest 48 = .ok (.if_icmp .ge 20, 3) := by decide +kernel
theorem dX7_digest_51 : decode cX7_digest 51 = .ok (.aload_n 0, 1) := by decide +kernel
theorem dX7_digest_52 : decode cX7_digest 52 = .ok (.aload_n 0, 1) := by decide +kernel
theorem dX7_digest_53 : decode cX7_digest 53 = .ok (.getfield 7, 3) := by decide +kernel
theorem dX7_digest_56 : decode cX7_digest 56 = .ok (.iload_n 1, 1) := by decide +kernel
theorem dX7_digest_57 : decode cX7_digest 57 = .ok (.iaload, 1) := by decide +kernel
theorem dX7_digest_58 : decode cX7_digest 58 = .ok (.i2l, 1) := by decide +kernel
theorem dX7_digest_59 : decode cX7_digest 59 = .ok (.invokevirtual 271, 3) := by decide +kernel
theorem dX7_digest_62 : decode cX7_digest 62 = .ok (.iinc 1 1, 3) := by decide +kernel
theorem dX7_digest_65 : decode cX7_digest 65 = .ok (.goto (-27), 3) := by decide +kernel
theorem dX7_digest_68 : decode cX7_digest 68 = .ok (.iconst 0, 1) := by decide +kernel
theorem dX7_digest_69 : decode cX7_digest 69 = .ok (.istore_n 1, 1) := by decide +kernel
theorem dX7_digest_70 : decode cX7_digest 70 = .ok (.iload_n 1, 1) := by decide +kernel
theorem dX7_digest_71 : decode cX7_digest 71 = .ok (.bipush 14, 2) := by decide +kernel
theorem dX7_digest_73 : decode cX7_digest 73 = .ok (.if_icmp .ge 23, 3) := by decide +kernel
theorem dX7_digest_76 : decode cX7_digest 76 = .ok (.aload_n 0, 1) := by decide +kernel
theorem dX7_digest_77 : decode cX7_digest 77 = .ok (.aload_n 0, 1) := by decide +kernel
theorem dX7_digest_78 : decode cX7_digest 78 = .ok (.iload_n 1, 1) := by decide +kernel
theorem dX7_digest_79 : decode cX7_digest 79 = .ok (.iconst 2, 1) := by decide +kernel
theorem dX7_digest_80 : decode cX7_digest 80 = .ok (.idiv, 1) := by decide +kernel
theorem dX7_digest_81 : decode cX7_digest 81 = .ok (.iload_n 1, 1) := by decide +kernel
theorem dX7_digest_82 : decode cX7_digest 82 = .ok (.iconst 2, 1) := by decide +kernel
theorem dX7_digest_83 : decode cX7_digest 83 = .ok (.irem, 1) := by decide +kernel
theorem dX7_digest_84 : decode cX7_digest 84 = .ok (.invokevirtual 231, 3) := by decide +kernel
theorem dX7_digest_87 : decode cX7_digest 87 = .ok (.invokevirtual 271, 3) := by decide +kernel
theorem dX7_digest_90 : decode cX7_digest 90 = .ok (.iinc 1 1, 3) := by decide +kernel
theorem dX7_digest_93 : decode cX7_digest 93 = .ok (.goto (-23), 3) := by decide +kernel
theorem dX7_digest_96 : decode cX7_digest 96 = .ok (.aload_n 0, 1) := by decide +kernel
theorem dX7_digest_97 : decode cX7_digest 97 = .ok (.invokevirtual 64, 3) := by decide +kernel
theorem dX7_digest_100 : decode cX7_digest 100 = .ok (.istore_n 1, 1) := by decide +kernel
theorem dX7_digest_101 : decode cX7_digest 101 = .ok (.iconst 0, 1) := by decide +kernel
theorem dX7_digest_102 : decode cX7_digest 102 = .ok (.istore_n 2, 1) := by decide +kernel
theorem dX7_digest_103 : decode cX7_digest 103 = .ok (.iload_n 2, 1) := by decide +kernel
theorem dX7_digest_104 : decode cX7_digest 104 = .ok (.iconst 3, 1) := by decide +kernel
theorem dX7_digest_105 : decode cX7_digest 105 = .ok (.iload_n 1, 1) := by decide +kernel
theorem dX7_digest_106 : decode cX7_digest 106 = .ok (.imul, 1) := by decide +kernel
theorem dX7_digest_107 : decode cX7_digest 107 = .ok (.if_icmp .ge 24, 3) := by decide +kernel
theorem dX7_digest_110 : decode cX7_digest 110 = .ok (.aload_n 0, 1) := by decide +kernel
theorem dX7_digest_111 : decode cX7_digest 111 = .ok (.aload_n 0, 1) := by decide +kernel
theorem dX7_digest_112 : decode cX7_digest 112 = .ok (.iload_n 2, 1) := by decide +kernel
theorem dX7_digest_113 : decode cX7_digest 113 = .ok (.iconst 3, 1) := by decide +kernel
theorem dX7_digest_114 : decode cX7_digest 114 = .ok (.idiv, 1) := by decide +kernel
theorem dX7_digest_115 : decode cX7_digest 115 = .ok (.iload_n 2, 1) := by decide +kernel
theorem dX7_digest_116 : decode cX7_digest 116 = .ok (.iconst 3, 1) := by decide +kernel
theorem dX7_digest_117 : decode cX7_digest 117 = .ok (.irem, 1) := by decide +kernel
theorem dX7_digest_118 : decode cX7_digest 118 = .ok (.invokevirtual 238, 3) := by decide +kernel
theorem dX7_digest_121 : decode cX7_digest 121 = .ok (.i2l, 1) := by decide +kernel
theorem dX7_digest_122 : decode cX7_digest 122 = .ok (.invokevirtual 271, 3) := by decide +kernel
theorem dX7_digest_125 : decode cX7_digest 125 = .ok (.iinc 2 1, 3) := by decide +kernel
theorem dX7_digest_128 : decode cX7_digest 128 = .ok (.goto (-25), 3) := by decide +kernel
theorem dX7_digest_131 : decode cX7_digest 131 = .ok (.aload_n 0, 1) := by decide +kernel
theorem dX7_digest_132 : decode cX7_digest 132 = .ok (.invokevirtual 138, 3) := by decide +kernel
theorem dX7_digest_135 : decode cX7_digest 135 = .ok (.istore_n 1, 1) := by decide +kernel
theorem dX7_digest_136 : decode cX7_digest 136 = .ok (.iconst 0, 1) := by decide +kernel
theorem dX7_digest_137 : decode cX7_digest 137 = .ok (.istore_n 2, 1) := by decide +kernel
theorem dX7_digest_138 : decode cX7_digest 138 = .ok (.iload_n 2, 1) := by decide +kernel
theorem dX7_digest_139 : decode cX7_digest 139 = .ok (.iload_n 1, 1) := by decide +kernel
theorem dX7_digest_140 : decode cX7_digest 140 = .ok (.if_icmp .ge 28, 3) := by decide +kernel
theorem dX7_digest_143 : decode cX7_digest 143 = .ok (.aload_n 0, 1) := by decide +kernel
theorem dX7_digest_144 : decode cX7_digest 144 = .ok (.aload_n 0, 1) := by decide +kernel
theorem dX7_digest_145 : decode cX7_digest 145 = .ok (.iload_n 2, 1) := by decide +kernel
theorem dX7_digest_146 : decode cX7_digest 146 = .ok (.invokevirtual 144, 3) := by decide +kernel
theorem dX7_digest_149 : decode cX7_digest 149 = .ok (.i2l, 1) := by decide +kernel
theorem dX7_digest_150 : decode cX7_digest 150 = .ok (.invokevirtual 271, 3) := by decide +kernel
theorem dX7_digest_153 : decode cX7_digest 153 = .ok (.aload_n 0, 1) := by decide +kernel
theorem dX7_digest_154 : decode cX7_digest 154 = .ok (.aload_n 0, 1) := by decide +kernel
theorem dX7_digest_155 : decode cX7_digest 155 = .ok (.getfield 132, 3) := by decide +kernel
theorem dX7_digest_158 : decode cX7_digest 158 = .ok (.i2l, 1) := by decide +kernel
theorem dX7_digest_159 : decode cX7_digest 159 = .ok (.invokevirtual 271, 3) := by decide +kernel
theorem dX7_digest_162 : decode cX7_digest 162 = .ok (.iinc 2 1, 3) := by decide +kernel
theorem dX7_digest_165 : decode cX7_digest 165 = .ok (.goto (-27), 3) := by decide +kernel
theorem dX7_digest_168 : decode cX7_digest 168 = .ok (.aload_n 0, 1) := by decide +kernel
theorem dX7_digest_169 : decode cX7_digest 169 = .ok (.aload_n 0, 1) := by decide +kernel
theorem dX7_digest_170 : decode cX7_digest 170 = .ok (.invokevirtual 260, 3) := by decide +kernel
theorem dX7_digest_173 : decode cX7_digest 173 = .ok (.invokestatic 275, 3) := by decide +kernel
theorem dX7_digest_176 : decode cX7_digest 176 = .ok (.invokevirtual 271, 3) := by decide +kernel
theorem dX7_digest_179 : decode cX7_digest 179 = .ok (.aload_n 0, 1) := by decide +kernel
theorem dX7_digest_180 : decode cX7_digest 180 = .ok (.aload_n 0, 1) := by decide +kernel
theorem dX7_digest_181 : decode cX7_digest 181 = .ok (.getfield 166, 3) := by decide +kernel
theorem dX7_digest_184 : decode cX7_digest 184 = .ok (.i2l, 1) := by decide +kernel
theorem dX7_digest_185 : decode cX7_digest 185 = .ok (.invokevirtual 271, 3) := by decide +kernel
theorem dX7_digest_188 : decode cX7_digest 188 = .ok (.iconst 0, 1) := by decide +kernel
theorem dX7_digest_189 : decode cX7_digest 189 = .ok (.istore_n 2, 1) := by decide +kernel
theorem dX7_digest_190 : decode cX7_digest 190 = .ok (.iload_n 2, 1) := by decide +kernel
theorem dX7_digest_191 : decode cX7_digest 191 = .ok (.aload_n 0, 1) := by decide +kernel
theorem dX7_digest_192 : decode cX7_digest 192 = .ok (.getfield 166, 3) := by decide +kernel
theorem dX7_digest_195 : decode cX7_digest 195 = .ok (.if_icmp .ge 20, 3) := by decide +kernel
theorem dX7_digest_198 : decode cX7_digest 198 = .ok (.aload_n 0, 1) := by decide +kernel
theorem dX7_digest_199 : decode cX7_digest 199 = .ok (.aload_n 0, 1) := by decide +kernel
theorem dX7_digest_200 : decode cX7_digest 200 = .ok (.getfield 22, 3) := by decide +kernel
theorem dX7_digest_203 : decode cX7_digest 203 = .ok (.iload_n 2, 1) := by decide +kernel
theorem dX7_digest_204 : decode cX7_digest 204 = .ok (.iaload, 1) := by decide +kernel
theorem dX7_digest_205 : decode cX7_digest 205 = .ok (.i2l, 1) := by decide +kernel
theorem dX7_digest_206 : decode cX7_digest 206 = .ok (.invokevirtual 271, 3) := by decide +kernel
theorem dX7_digest_209 : decode cX7_digest 209 = .ok (.iinc 2 1, 3) := by decide +kernel
theorem dX7_digest_212 : decode cX7_digest 212 = .ok (.goto (-22), 3) := by decide +kernel
theorem dX7_digest_215 : decode cX7_digest 215 = .ok (.aload_n 0, 1) := by decide +kernel
theorem dX7_digest_216 : decode cX7_digest 216 = .ok (.getfield 266, 3) := by decide +kernel
theorem dX7_digest_219 : decode cX7_digest 219 = .ok (.lreturn, 1) := by decide +kernel
theorem dJxe99ae_isNaN_b9ae7_0 : decode cJxe99ae_isNaN_b9ae7 0 = .ok (.dload_n 0, 1) := by decide +kernel
theorem dJxe99ae_isNaN_b9ae7_1 : decode cJxe99ae_isNaN_b9ae7 1 = .ok (.dload_n 0, 1) := by decide +kernel
theorem dJxe99ae_isNaN_b9ae7_2 : decode cJxe99ae_isNaN_b9ae7 2 = .ok (.dcmp .l, 1) := by decide +kernel
theorem dJxe99ae_isNaN_b9ae7_3 : decode cJxe99ae_isNaN_b9ae7 3 = .ok (.ifCond .eq 7, 3) := by decide +kernel
theorem dJxe99ae_isNaN_b9ae7_6 : decode cJxe99ae_isNaN_b9ae7 6 = .ok (.iconst 1, 1) := by decide +kernel
theorem dJxe99ae_isNaN_b9ae7_7 : decode cJxe99ae_isNaN_b9ae7 7 = .ok (.goto 4, 3) := by decide +kernel
theorem dJxe99ae_isNaN_b9ae7_10 : decode cJxe99ae_isNaN_b9ae7 10 = .ok (.iconst 0, 1) := by decide +kernel
theorem dJxe99ae_isNaN_b9ae7_11 : decode cJxe99ae_isNaN_b9ae7 11 = .ok (.ireturn, 1) := by decide +kernel
theorem dJxe99ae_doubleToLongBits_ccdee_0 : decode cJxe99ae_doubleToLongBits_ccdee 0 = .ok (.dload_n 0, 1) := by decide +kernel
theorem dJxe99ae_doubleToLongBits_ccdee_1 : decode cJxe99ae_doubleToLongBits_ccdee 1 = .ok (.invokestatic 122, 3) := by decide +kernel
theorem dJxe99ae_doubleToLongBits_ccdee_4 : decode cJxe99ae_doubleToLongBits_ccdee 4 = .ok (.ifCond .ne 8, 3) := by decide +kernel
theorem dJxe99ae_doubleToLongBits_ccdee_7 : decode cJxe99ae_doubleToLongBits_ccdee 7 = .ok (.dload_n 0, 1) := by decide +kernel
theorem dJxe99ae_doubleToLongBits_ccdee_8 : decode cJxe99ae_doubleToLongBits_ccdee 8 = .ok (.invokestatic 134, 3) := by decide +kernel
theorem dJxe99ae_doubleToLongBits_ccdee_11 : decode cJxe99ae_doubleToLongBits_ccdee 11 = .ok (.lreturn, 1) := by decide +kernel
theorem dJxe99ae_doubleToLongBits_ccdee_12 : decode cJxe99ae_doubleToLongBits_ccdee 12 = .ok (.ldc2_w 137, 3) := by decide +kernel
theorem dJxe99ae_doubleToLongBits_ccdee_15 : decode cJxe99ae_doubleToLongBits_ccdee 15 = .ok (.lreturn, 1) := by decide +kernel
theorem dJ6_bitCount_0f7a4_0 : decode cJ6_bitCount_0f7a4 0 = .ok (.iload_n 0, 1) := by decide +kernel
theorem dJ6_bitCount_0f7a4_1 : decode cJ6_bitCount_0f7a4 1 = .ok (.iload_n 0, 1) := by decide +kernel
theorem dJ6_bitCount_0f7a4_2 : decode cJ6_bitCount_0f7a4 2 = .ok (.iconst 1, 1) := by decide +kernel
theorem dJ6_bitCount_0f7a4_3 : decode cJ6_bitCount_0f7a4 3 = .ok (.iushr, 1) := by decide +kernel
theorem dJ6_bitCount_0f7a4_4 : decode cJ6_bitCount_0f7a4 4 = .ok (.ldc_w 265, 3) := by decide +kernel
theorem dJ6_bitCount_0f7a4_7 : decode cJ6_bitCount_0f7a4 7 = .ok (.iand, 1) := by decide +kernel
theorem dJ6_bitCount_0f7a4_8 : decode cJ6_bitCount_0f7a4 8 = .ok (.isub, 1) := by decide +kernel
theorem dJ6_bitCount_0f7a4_9 : decode cJ6_bitCount_0f7a4 9 = .ok (.istore_n 0, 1) := by decide +kernel
theorem dJ6_bitCount_0f7a4_10 : decode cJ6_bitCount_0f7a4 10 = .ok (.iload_n 0, 1) := by decide +kernel
theorem dJ6_bitCount_0f7a4_11 : decode cJ6_bitCount_0f7a4 11 = .ok (.ldc_w 266, 3) := by decide +kernel
theorem dJ6_bitCount_0f7a4_14 : decode cJ6_bitCount_0f7a4 14 = .ok (.iand, 1) := by decide +kernel
theorem dJ6_bitCount_0f7a4_15 : decode cJ6_bitCount_0f7a4 15 = .ok (.iload_n 0, 1) := by decide +kernel
theorem dJ6_bitCount_0f7a4_16 : decode cJ6_bitCount_0f7a4 16 = .ok (.iconst 2, 1) := by decide +kernel
theorem dJ6_bitCount_0f7a4_17 : decode cJ6_bitCount_0f7a4 17 = .ok (.iushr, 1) := by decide +kernel
theorem dJ6_bitCount_0f7a4_18 : decode cJ6_bitCount_0f7a4 18 = .ok (.ldc_w 266, 3) := by decide +kernel
theorem dJ6_bitCount_0f7a4_21 : decode cJ6_bitCount_0f7a4 21 = .ok (.iand, 1) := by decide +kernel
theorem dJ6_bitCount_0f7a4_22 : decode cJ6_bitCount_0f7a4 22 = .ok (.iadd, 1) := by decide +kernel
theorem dJ6_bitCount_0f7a4_23 : decode cJ6_bitCount_0f7a4 23 = .ok (.istore_n 0, 1) := by decide +kernel
theorem dJ6_bitCount_0f7a4_24 : decode cJ6_bitCount_0f7a4 24 = .ok (.iload_n 0, 1) := by decide +kernel
theorem dJ6_bitCount_0f7a4_25 : decode cJ6_bitCount_0f7a4 25 = .ok (.iload_n 0, 1) := by decide +kernel
theorem dJ6_bitCount_0f7a4_26 : decode cJ6_bitCount_0f7a4 26 = .ok (.iconst 4, 1) := by decide +kernel
theorem dJ6_bitCount_0f7a4_27 : decode cJ6_bitCount_0f7a4 27 = .ok (.iushr, 1) := by decide +kernel
theorem dJ6_bitCount_0f7a4_28 : decode cJ6_bitCount_0f7a4 28 = .ok (.iadd, 1) := by decide +kernel
theorem dJ6_bitCount_0f7a4_29 : decode cJ6_bitCount_0f7a4 29 = .ok (.ldc_w 267, 3) := by decide +kernel
theorem dJ6_bitCount_0f7a4_32 : decode cJ6_bitCount_0f7a4 32 = .ok (.iand, 1) := by decide +kernel
theorem dJ6_bitCount_0f7a4_33 : decode cJ6_bitCount_0f7a4 33 = .ok (.istore_n 0, 1) := by decide +kernel
theorem dJ6_bitCount_0f7a4_34 : decode cJ6_bitCount_0f7a4 34 = .ok (.iload_n 0, 1) := by decide +kernel
theorem dJ6_bitCount_0f7a4_35 : decode cJ6_bitCount_0f7a4 35 = .ok (.iload_n 0, 1) := by decide +kernel
theorem dJ6_bitCount_0f7a4_36 : decode cJ6_bitCount_0f7a4 36 = .ok (.bipush 8, 2) := by decide +kernel
theorem dJ6_bitCount_0f7a4_38 : decode cJ6_bitCount_0f7a4 38 = .ok (.iushr, 1) := by decide +kernel
theorem dJ6_bitCount_0f7a4_39 : decode cJ6_bitCount_0f7a4 39 = .ok (.iadd, 1) := by decide +kernel
theorem dJ6_bitCount_0f7a4_40 : decode cJ6_bitCount_0f7a4 40 = .ok (.istore_n 0, 1) := by decide +kernel
theorem dJ6_bitCount_0f7a4_41 : decode cJ6_bitCount_0f7a4 41 = .ok (.iload_n 0, 1) := by decide +kernel
theorem dJ6_bitCount_0f7a4_42 : decode cJ6_bitCount_0f7a4 42 = .ok (.iload_n 0, 1) := by decide +kernel
theorem dJ6_bitCount_0f7a4_43 : decode cJ6_bitCount_0f7a4 43 = .ok (.bipush 16, 2) := by decide +kernel
theorem dJ6_bitCount_0f7a4_45 : decode cJ6_bitCount_0f7a4 45 = .ok (.iushr, 1) := by decide +kernel
theorem dJ6_bitCount_0f7a4_46 : decode cJ6_bitCount_0f7a4 46 = .ok (.iadd, 1) := by decide +kernel
theorem dJ6_bitCount_0f7a4_47 : decode cJ6_bitCount_0f7a4 47 = .ok (.istore_n 0, 1) := by decide +kernel
theorem dJ6_bitCount_0f7a4_48 : decode cJ6_bitCount_0f7a4 48 = .ok (.iload_n 0, 1) := by decide +kernel
theorem dJ6_bitCount_0f7a4_49 : decode cJ6_bitCount_0f7a4 49 = .ok (.bipush 63, 2) := by decide +kernel
theorem dJ6_bitCount_0f7a4_51 : decode cJ6_bitCount_0f7a4 51 = .ok (.iand, 1) := by decide +kernel
theorem dJ6_bitCount_0f7a4_52 : decode cJ6_bitCount_0f7a4 52 = .ok (.ireturn, 1) := by decide +kernel
theorem dJ13_compare_74951_0 : decode cJ13_compare_74951 0 = .ok (.lload_n 0, 1) := by decide +kernel
theorem dJ13_compare_74951_1 : decode cJ13_compare_74951 1 = .ok (.lload_n 2, 1) := by decide +kernel
theorem dJ13_compare_74951_2 : decode cJ13_compare_74951 2 = .ok (.lcmp, 1) := by decide +kernel
theorem dJ13_compare_74951_3 : decode cJ13_compare_74951 3 = .ok (.ifCond .ge 7, 3) := by decide +kernel
theorem dJ13_compare_74951_6 : decode cJ13_compare_74951 6 = .ok (.iconst (-1), 1) := by decide +kernel
theorem dJ13_compare_74951_7 : decode cJ13_compare_74951 7 = .ok (.goto 14, 3) := by decide +kernel
theorem dJ13_compare_74951_10 : decode cJ13_compare_74951 10 = .ok (.lload_n 0, 1) := by decide +kernel
theorem dJ13_compare_74951_11 : decode cJ13_compare_74951 11 = .ok (.lload_n 2, 1) := by decide +kernel
theorem dJ13_compare_74951_12 : decode cJ13_compare_74951 12 = .ok (.lcmp, 1) := by decide +kernel
theorem dJ13_compare_74951_13 : decode cJ13_compare_74951 13 = .ok (.ifCond .ne 7, 3) := by decide +kernel
theorem dJ13_compare_74951_16 : decode cJ13_compare_74951 16 = .ok (.iconst 0, 1) := by decide +kernel
theorem dJ13_compare_74951_17 : decode cJ13_compare_74951 17 = .ok (.goto 4, 3) := by decide +kernel
theorem dJ13_compare_74951_20 : decode cJ13_compare_74951 20 = .ok (.iconst 1, 1) := by decide +kernel
theorem dJ13_compare_74951_21 : decode cJ13_compare_74951 21 = .ok (.ireturn, 1) := by decide +kernel
theorem dJ9_abs_0f7a4_0 : decode cJ9_abs_0f7a4 0 = .ok (.iload_n 0, 1) := by decide +kernel
theorem dJ9_abs_0f7a4_1 : decode cJ9_abs_0f7a4 1 = .ok (.ifCond .ge 8, 3) := by decide +kernel
theorem dJ9_abs_0f7a4_4 : decode cJ9_abs_0f7a4 4 = .ok (.iload_n 0, 1) := by decide +kernel
theorem dJ9_abs_0f7a4_5 : decode cJ9_abs_0f7a4 5 = .ok (.ineg, 1) := by decide +kernel
theorem dJ9_abs_0f7a4_6 : decode cJ9_abs_0f7a4 6 = .ok (.goto 4, 3) := by decide +kernel
theorem dJ9_abs_0f7a4_9 : decode cJ9_abs_0f7a4 9 = .ok (.iload_n 0, 1) := by decide +kernel
theorem dJ9_abs_0f7a4_10 : decode cJ9_abs_0f7a4 10 = .ok (.ireturn, 1) := by decide +kernel
theorem dJ9_abs_067f4_0 : decode cJ9_abs_067f4 0 = .ok (.lload_n 0, 1) := by decide +kernel
theorem dJ9_abs_067f4_1 : decode cJ9_abs_067f4 1 = .ok (.lconst 0, 1) := by decide +kernel
theorem dJ9_abs_067f4_2 : decode cJ9_abs_067f4 2 = .ok (.lcmp, 1) := by decide +kernel
theorem dJ9_abs_067f4_3 : decode cJ9_abs_067f4 3 = .ok (.ifCond .ge 8, 3) := by decide +kernel
theorem dJ9_abs_067f4_6 : decode cJ9_abs_067f4 6 = .ok (.lload_n 0, 1) := by decide +kernel
theorem dJ9_abs_067f4_7 : decode cJ9_abs_067f4 7 = .ok (.lneg, 1) := by decide +kernel
theorem dJ9_abs_067f4_8 : decode cJ9_abs_067f4 8 = .ok (.goto 4, 3) := by decide +kernel
theorem dJ9_abs_067f4_11 : decode cJ9_abs_067f4 11 = .ok (.lload_n 0, 1) := by decide +kernel
theorem dJ9_abs_067f4_12 : decode cJ9_abs_067f4 12 = .ok (.lreturn, 1) := by decide +kernel
theorem dJ7_fill_d0a16_0 : decode cJ7_fill_d0a16 0 = .ok (.iconst 0, 1) := by decide +kernel
theorem dJ7_fill_d0a16_1 : decode cJ7_fill_d0a16 1 = .ok (.istore_n 3, 1) := by decide +kernel
theorem dJ7_fill_d0a16_2 : decode cJ7_fill_d0a16 2 = .ok (.aload_n 0, 1) := by decide +kernel
theorem dJ7_fill_d0a16_3 : decode cJ7_fill_d0a16 3 = .ok (.arraylength, 1) := by decide +kernel
theorem dJ7_fill_d0a16_4 : decode cJ7_fill_d0a16 4 = .ok (.istore 4, 2) := by decide +kernel
theorem dJ7_fill_d0a16_6 : decode cJ7_fill_d0a16 6 = .ok (.iload_n 3, 1) := by decide +kernel
theorem dJ7_fill_d0a16_7 : decode cJ7_fill_d0a16 7 = .ok (.iload 4, 2) := by decide +kernel
theorem dJ7_fill_d0a16_9 : decode cJ7_fill_d0a16 9 = .ok (.if_icmp .ge 13, 3) := by decide +kernel
theorem dJ7_fill_d0a16_12 : decode cJ7_fill_d0a16 12 = .ok (.aload_n 0, 1) := by decide +kernel
theorem dJ7_fill_d0a16_13 : decode cJ7_fill_d0a16 13 = .ok (.iload_n 3, 1) := by decide +kernel
theorem dJ7_fill_d0a16_14 : decode cJ7_fill_d0a16 14 = .ok (.lload_n 1, 1) := by decide +kernel
theorem dJ7_fill_d0a16_15 : decode cJ7_fill_d0a16 15 = .ok (.lastore, 1) := by decide +kernel
theorem dJ7_fill_d0a16_16 : decode cJ7_fill_d0a16 16 = .ok (.iinc 3 1, 3) := by decide +kernel
theorem dJ7_fill_d0a16_19 : decode cJ7_fill_d0a16 19 = .ok (.goto (-13), 3) := by decide +kernel
theorem dJ7_fill_d0a16_22 : decode cJ7_fill_d0a16 22 = .ok (.return_, 1) := by decide +kernel
theorem dL_load_0 : decode cL_load 0 = .ok (.aload_n 1, 1) := by decide +kernel
theorem dL_load_1 : decode cL_load 1 = .ok (.iconst 0, 1) := by decide +kernel
theorem dL_load_2 : decode cL_load 2 = .ok (.aload_n 0, 1) := by decide +kernel
theorem dL_load_3 : decode cL_load 3 = .ok (.invokevirtual 7, 3) := by decide +kernel
theorem dL_load_6 : decode cL_load 6 = .ok (.i2l, 1) := by decide +kernel
theorem dL_load_7 : decode cL_load 7 = .ok (.lastore, 1) := by decide +kernel
theorem dL_load_8 : decode cL_load 8 = .ok (.goto 9, 3) := by decide +kernel
theorem dL_load_11 : decode cL_load 11 = .ok (.astore_n 2, 1) := by decide +kernel
theorem dL_load_12 : decode cL_load 12 = .ok (.iconst 1, 1) := by decide +kernel
theorem dL_load_13 : decode cL_load 13 = .ok (.ireturn, 1) := by decide +kernel
theorem dL_load_14 : decode cL_load 14 = .ok (.astore_n 2, 1) := by decide +kernel
theorem dL_load_15 : decode cL_load 15 = .ok (.iconst 2, 1) := by decide +kernel
theorem dL_load_16 : decode cL_load 16 = .ok (.ireturn, 1) := by decide +kernel
theorem dL_load_17 : decode cL_load 17 = .ok (.iconst 0, 1) := by decide +kernel
theorem dL_load_18 : decode cL_load 18 = .ok (.ireturn, 1) := by decide +kernel
theorem dL_setValue_0 : decode cL_setValue 0 = .ok (.aload_n 3, 1) := by decide +kernel
theorem dL_setValue_1 : decode cL_setValue 1 = .ok (.iconst 0, 1) := by decide +kernel
theorem dL_setValue_2 : decode cL_setValue 2 = .ok (.aload_n 0, 1) := by decide +kernel
theorem dL_setValue_3 : decode cL_setValue 3 = .ok (.iload_n 1, 1) := by decide +kernel
theorem dL_setValue_4 : decode cL_setValue 4 = .ok (.iload_n 2, 1) := by decide +kernel
theorem dL_setValue_5 : decode cL_setValue 5 = .ok (.invokevirtual 17, 3) := by decide +kernel
theorem dL_setValue_8 : decode cL_setValue 8 = .ok (.i2l, 1) := by decide +kernel
theorem dL_setValue_9 : decode cL_setValue 9 = .ok (.lastore, 1) := by decide +kernel
theorem dL_setValue_10 : decode cL_setValue 10 = .ok (.goto 15, 3) := by decide +kernel
theorem dL_setValue_13 : decode cL_setValue 13 = .ok (.astore 4, 2) := by decide +kernel
theorem dL_setValue_15 : decode cL_setValue 15 = .ok (.iconst 1, 1) := by decide +kernel
theorem dL_setValue_16 : decode cL_setValue 16 = .ok (.ireturn, 1) := by decide +kernel
theorem dL_setValue_17 : decode cL_setValue 17 = .ok (.astore 4, 2) := by decide +kernel
theorem dL_setValue_19 : decode cL_setValue 19 = .ok (.iconst 2, 1) := by decide +kernel
theorem dL_setValue_20 : decode cL_setValue 20 = .ok (.ireturn, 1) := by decide +kernel
theorem dL_setValue_21 : decode cL_setValue 21 = .ok (.astore 4, 2) := by decide +kernel
theorem dL_setValue_23 : decode cL_setValue 23 = .ok (.iconst 3, 1) := by decide +kernel
theorem dL_setValue_24 : decode cL_setValue 24 = .ok (.ireturn, 1) := by decide +kernel
theorem dL_setValue_25 : decode cL_setValue 25 = .ok (.iconst 0, 1) := by decide +kernel
theorem dL_setValue_26 : decode cL_setValue 26 = .ok (.ireturn, 1) := by decide +kernel
theorem dL_setRail_0 : decode cL_setRail 0 = .ok (.aload_n 2, 1) := by decide +kernel
theorem dL_setRail_1 : decode cL_setRail 1 = .ok (.iconst 0, 1) := by decide +kernel
theorem dL_setRail_2 : decode cL_setRail 2 = .ok (.aload_n 0, 1) := by decide +kernel
theorem dL_setRail_3 : decode cL_setRail 3 = .ok (.iload_n 1, 1) := by decide +kernel
theorem dL_setRail_4 : decode cL_setRail 4 = .ok (.invokevirtual 23, 3) := by decide +kernel
theorem dL_setRail_7 : decode cL_setRail 7 = .ok (.i2l, 1) := by decide +kernel
theorem dL_setRail_8 : decode cL_setRail 8 = .ok (.lastore, 1) := by decide +kernel
theorem dL_setRail_9 : decode cL_setRail 9 = .ok (.goto 6, 3) := by decide +kernel
theorem dL_setRail_12 : decode cL_setRail 12 = .ok (.astore_n 3, 1) := by decide +kernel
theorem dL_setRail_13 : decode cL_setRail 13 = .ok (.iconst 1, 1) := by decide +kernel
theorem dL_setRail_14 : decode cL_setRail 14 = .ok (.ireturn, 1) := by decide +kernel
theorem dL_setRail_15 : decode cL_setRail 15 = .ok (.iconst 0, 1) := by decide +kernel
theorem dL_setRail_16 : decode cL_setRail 16 = .ok (.ireturn, 1) := by decide +kernel
theorem dL_drop_0 : decode cL_drop 0 = .ok (.aload_n 2, 1) := by decide +kernel
theorem dL_drop_1 : decode cL_drop 1 = .ok (.iconst 0, 1) := by decide +kernel
theorem dL_drop_2 : decode cL_drop 2 = .ok (.aload_n 0, 1) := by decide +kernel
theorem dL_drop_3 : decode cL_drop 3 = .ok (.iload_n 1, 1) := by decide +kernel
theorem dL_drop_4 : decode cL_drop 4 = .ok (.invokevirtual 27, 3) := by decide +kernel
theorem dL_drop_7 : decode cL_drop 7 = .ok (.i2l, 1) := by decide +kernel
theorem dL_drop_8 : decode cL_drop 8 = .ok (.lastore, 1) := by decide +kernel
theorem dL_drop_9 : decode cL_drop 9 = .ok (.goto 6, 3) := by decide +kernel
theorem dL_drop_12 : decode cL_drop 12 = .ok (.astore_n 3, 1) := by decide +kernel
theorem dL_drop_13 : decode cL_drop 13 = .ok (.iconst 1, 1) := by decide +kernel
theorem dL_drop_14 : decode cL_drop 14 = .ok (.ireturn, 1) := by decide +kernel
theorem dL_drop_15 : decode cL_drop 15 = .ok (.iconst 0, 1) := by decide +kernel
theorem dL_drop_16 : decode cL_drop 16 = .ok (.ireturn, 1) := by decide +kernel
theorem dL_sweep_0 : decode cL_sweep 0 = .ok (.aload_n 3, 1) := by decide +kernel
theorem dL_sweep_1 : decode cL_sweep 1 = .ok (.iconst 0, 1) := by decide +kernel
theorem dL_sweep_2 : decode cL_sweep 2 = .ok (.aload_n 0, 1) := by decide +kernel
theorem dL_sweep_3 : decode cL_sweep 3 = .ok (.iload_n 1, 1) := by decide +kernel
theorem dL_sweep_4 : decode cL_sweep 4 = .ok (.iload_n 2, 1) := by decide +kernel
theorem dL_sweep_5 : decode cL_sweep 5 = .ok (.invokevirtual 30, 3) := by decide +kernel
theorem dL_sweep_8 : decode cL_sweep 8 = .ok (.i2l, 1) := by decide +kernel
theorem dL_sweep_9 : decode cL_sweep 9 = .ok (.lastore, 1) := by decide +kernel
theorem dL_sweep_10 : decode cL_sweep 10 = .ok (.goto 15, 3) := by decide +kernel
theorem dL_sweep_13 : decode cL_sweep 13 = .ok (.astore 4, 2) := by decide +kernel
theorem dL_sweep_15 : decode cL_sweep 15 = .ok (.iconst 1, 1) := by decide +kernel
theorem dL_sweep_16 : decode cL_sweep 16 = .ok (.ireturn, 1) := by decide +kernel
theorem dL_sweep_17 : decode cL_sweep 17 = .ok (.astore 4, 2) := by decide +kernel
theorem dL_sweep_19 : decode cL_sweep 19 = .ok (.iconst 2, 1) := by decide +kernel
theorem dL_sweep_20 : decode cL_sweep 20 = .ok (.ireturn, 1) := by decide +kernel
theorem dL_sweep_21 : decode cL_sweep 21 = .ok (.astore 4, 2) := by decide +kernel
theorem dL_sweep_23 : decode cL_sweep 23 = .ok (.iconst 3, 1) := by decide +kernel
theorem dL_sweep_24 : decode cL_sweep 24 = .ok (.ireturn, 1) := by decide +kernel
theorem dL_sweep_25 : decode cL_sweep 25 = .ok (.iconst 0, 1) := by decide +kernel
theorem dL_sweep_26 : decode cL_sweep 26 = .ok (.ireturn, 1) := by decide +kernel
theorem dL_undo_0 : decode cL_undo 0 = .ok (.aload_n 1, 1) := by decide +kernel
theorem dL_undo_1 : decode cL_undo 1 = .ok (.iconst 0, 1) := by decide +kernel
theorem dL_undo_2 : decode cL_undo 2 = .ok (.aload_n 0, 1) := by decide +kernel
theorem dL_undo_3 : decode cL_undo 3 = .ok (.invokevirtual 33, 3) := by decide +kernel
theorem dL_undo_6 : decode cL_undo 6 = .ok (.i2l, 1) := by decide +kernel
theorem dL_undo_7 : decode cL_undo 7 = .ok (.lastore, 1) := by decide +kernel
theorem dL_undo_8 : decode cL_undo 8 = .ok (.goto 6, 3) := by decide +kernel
theorem dL_undo_11 : decode cL_undo 11 = .ok (.astore_n 2, 1) := by decide +kernel
theorem dL_undo_12 : decode cL_undo 12 = .ok (.iconst 1, 1) := by decide +kernel
theorem dL_undo_13 : decode cL_undo 13 = .ok (.ireturn, 1) := by decide +kernel
theorem dL_undo_14 : decode cL_undo 14 = .ok (.iconst 0, 1) := by decide +kernel
theorem dL_undo_15 : decode cL_undo 15 = .ok (.ireturn, 1) := by decide +kernel
theorem dL_keep_0 : decode cL_keep 0 = .ok (.aload_n 2, 1) := by decide +kernel
theorem dL_keep_1 : decode cL_keep 1 = .ok (.iconst 0, 1) := by decide +kernel
theorem dL_keep_2 : decode cL_keep 2 = .ok (.aload_n 0, 1) := by decide +kernel
theorem dL_keep_3 : decode cL_keep 3 = .ok (.iload_n 1, 1) := by decide +kernel
theorem dL_keep_4 : decode cL_keep 4 = .ok (.invokevirtual 36, 3) := by decide +kernel
theorem dL_keep_7 : decode cL_keep 7 = .ok (.i2l, 1) := by decide +kernel
theorem dL_keep_8 : decode cL_keep 8 = .ok (.lastore, 1) := by decide +kernel
theorem dL_keep_9 : decode cL_keep 9 = .ok (.goto 6, 3) := by decide +kernel
theorem dL_keep_12 : decode cL_keep 12 = .ok (.astore_n 3, 1) := by decide +kernel
theorem dL_keep_13 : decode cL_keep 13 = .ok (.iconst 1, 1) := by decide +kernel
theorem dL_keep_14 : decode cL_keep 14 = .ok (.ireturn, 1) := by decide +kernel
theorem dL_keep_15 : decode cL_keep 15 = .ok (.iconst 0, 1) := by decide +kernel
theorem dL_keep_16 : decode cL_keep 16 = .ok (.ireturn, 1) := by decide +kernel
theorem dL_back_0 : decode cL_back 0 = .ok (.aload_n 2, 1) := by decide +kernel
theorem dL_back_1 : decode cL_back 1 = .ok (.iconst 0, 1) := by decide +kernel
theorem dL_back_2 : decode cL_back 2 = .ok (.aload_n 0, 1) := by decide +kernel
theorem dL_back_3 : decode cL_back 3 = .ok (.iload_n 1, 1) := by decide +kernel
theorem dL_back_4 : decode cL_back 4 = .ok (.invokevirtual 39, 3) := by decide +kernel
theorem dL_back_7 : decode cL_back 7 = .ok (.i2l, 1) := by decide +kernel
theorem dL_back_8 : decode cL_back 8 = .ok (.lastore, 1) := by decide +kernel
theorem dL_back_9 : decode cL_back 9 = .ok (.goto 9, 3) := by decide +kernel
theorem dL_back_12 : decode cL_back 12 = .ok (.astore_n 3, 1) := by decide +kernel
theorem dL_back_13 : decode cL_back 13 = .ok (.iconst 1, 1) := by decide +kernel
theorem dL_back_14 : decode cL_back 14 = .ok (.ireturn, 1) := by decide +kernel
theorem dL_back_15 : decode cL_back 15 = .ok (.astore_n 3, 1) := by decide +kernel
theorem dL_back_16 : decode cL_back 16 = .ok (.iconst 2, 1) := by decide +kernel
theorem dL_back_17 : decode cL_back 17 = .ok (.ireturn, 1) := by decide +kernel
theorem dL_back_18 : decode cL_back 18 = .ok (.iconst 0, 1) := by decide +kernel
theorem dL_back_19 : decode cL_back 19 = .ok (.ireturn, 1) := by decide +kernel
theorem dL_append_0 : decode cL_append 0 = .ok (.aload_n 2, 1) := by decide +kernel
theorem dL_append_1 : decode cL_append 1 = .ok (.iconst 0, 1) := by decide +kernel
theorem dL_append_2 : decode cL_append 2 = .ok (.aload_n 0, 1) := by decide +kernel
theorem dL_append_3 : decode cL_append 3 = .ok (.iload_n 1, 1) := by decide +kernel
theorem dL_append_4 : decode cL_append 4 = .ok (.invokevirtual 42, 3) := by decide +kernel
theorem dL_append_7 : decode cL_append 7 = .ok (.i2l, 1) := by decide +kernel
theorem dL_append_8 : decode cL_append 8 = .ok (.lastore, 1) := by decide +kernel
theorem dL_append_9 : decode cL_append 9 = .ok (.goto 9, 3) := by decide +kernel
theorem dL_append_12 : decode cL_append 12 = .ok (.astore_n 3, 1) := by decide +kernel
theorem dL_append_13 : decode cL_append 13 = .ok (.iconst 1, 1) := by decide +kernel
theorem dL_append_14 : decode cL_append 14 = .ok (.ireturn, 1) := by decide +kernel
theorem dL_append_15 : decode cL_append 15 = .ok (.astore_n 3, 1) := by decide +kernel
theorem dL_append_16 : decode cL_append 16 = .ok (.iconst 2, 1) := by decide +kernel
theorem dL_append_17 : decode cL_append 17 = .ok (.ireturn, 1) := by decide +kernel
theorem dL_append_18 : decode cL_append 18 = .ok (.iconst 0, 1) := by decide +kernel
theorem dL_append_19 : decode cL_append 19 = .ok (.ireturn, 1) := by decide +kernel
theorem dL_voltage_0 : decode cL_voltage 0 = .ok (.aload_n 3, 1) := by decide +kernel
theorem dL_voltage_1 : decode cL_voltage 1 = .ok (.iconst 0, 1) := by decide +kernel
theorem dL_voltage_2 : decode cL_voltage 2 = .ok (.aload_n 0, 1) := by decide +kernel
theorem dL_voltage_3 : decode cL_voltage 3 = .ok (.iload_n 1, 1) := by decide +kernel
theorem dL_voltage_4 : decode cL_voltage 4 = .ok (.iload_n 2, 1) := by decide +kernel
theorem dL_voltage_5 : decode cL_voltage 5 = .ok (.invokevirtual 45, 3) := by decide +kernel
theorem dL_voltage_8 : decode cL_voltage 8 = .ok (.lastore, 1) := by decide +kernel
theorem dL_voltage_9 : decode cL_voltage 9 = .ok (.goto 11, 3) := by decide +kernel
theorem dL_voltage_12 : decode cL_voltage 12 = .ok (.astore 4, 2) := by decide +kernel
theorem dL_voltage_14 : decode cL_voltage 14 = .ok (.iconst 1, 1) := by decide +kernel
theorem dL_voltage_15 : decode cL_voltage 15 = .ok (.ireturn, 1) := by decide +kernel
theorem dL_voltage_16 : decode cL_voltage 16 = .ok (.astore 4, 2) := by decide +kernel
theorem dL_voltage_18 : decode cL_voltage 18 = .ok (.iconst 2, 1) := by decide +kernel
theorem dL_voltage_19 : decode cL_voltage 19 = .ok (.ireturn, 1) := by decide +kernel
theorem dL_voltage_20 : decode cL_voltage 20 = .ok (.iconst 0, 1) := by decide +kernel
theorem dL_voltage_21 : decode cL_voltage 21 = .ok (.ireturn, 1) := by decide +kernel
theorem dL_current_0 : decode cL_current 0 = .ok (.aload_n 3, 1) := by decide +kernel
theorem dL_current_1 : decode cL_current 1 = .ok (.iconst 0, 1) := by decide +kernel
theorem dL_current_2 : decode cL_current 2 = .ok (.aload_n 0, 1) := by decide +kernel
theorem dL_current_3 : decode cL_current 3 = .ok (.iload_n 1, 1) := by decide +kernel
theorem dL_current_4 : decode cL_current 4 = .ok (.iload_n 2, 1) := by decide +kernel
theorem dL_current_5 : decode cL_current 5 = .ok (.invokevirtual 49, 3) := by decide +kernel
theorem dL_current_8 : decode cL_current 8 = .ok (.lastore, 1) := by decide +kernel
theorem dL_current_9 : decode cL_current 9 = .ok (.goto 15, 3) := by decide +kernel
theorem dL_current_12 : decode cL_current 12 = .ok (.astore 4, 2) := by decide +kernel
theorem dL_current_14 : decode cL_current 14 = .ok (.iconst 1, 1) := by decide +kernel
theorem dL_current_15 : decode cL_current 15 = .ok (.ireturn, 1) := by decide +kernel
theorem dL_current_16 : decode cL_current 16 = .ok (.astore 4, 2) := by decide +kernel
theorem dL_current_18 : decode cL_current 18 = .ok (.iconst 2, 1) := by decide +kernel
theorem dL_current_19 : decode cL_current 19 = .ok (.ireturn, 1) := by decide +kernel
theorem dL_current_20 : decode cL_current 20 = .ok (.astore 4, 2) := by decide +kernel
theorem dL_current_22 : decode cL_current 22 = .ok (.iconst 3, 1) := by decide +kernel
theorem dL_current_23 : decode cL_current 23 = .ok (.ireturn, 1) := by decide +kernel
theorem dL_current_24 : decode cL_current 24 = .ok (.iconst 0, 1) := by decide +kernel
theorem dL_current_25 : decode cL_current 25 = .ok (.ireturn, 1) := by decide +kernel
theorem dL_amplifier_0 : decode cL_amplifier 0 = .ok (.aload_n 3, 1) := by decide +kernel
theorem dL_amplifier_1 : decode cL_amplifier 1 = .ok (.iconst 0, 1) := by decide +kernel
theorem dL_amplifier_2 : decode cL_amplifier 2 = .ok (.aload_n 0, 1) := by decide +kernel
theorem dL_amplifier_3 : decode cL_amplifier 3 = .ok (.iload_n 1, 1) := by decide +kernel
theorem dL_amplifier_4 : decode cL_amplifier 4 = .ok (.iload_n 2, 1) := by decide +kernel
theorem dL_amplifier_5 : decode cL_amplifier 5 = .ok (.invokevirtual 52, 3) := by decide +kernel
theorem dL_amplifier_8 : decode cL_amplifier 8 = .ok (.i2l, 1) := by decide +kernel
theorem dL_amplifier_9 : decode cL_amplifier 9 = .ok (.lastore, 1) := by decide +kernel
theorem dL_amplifier_10 : decode cL_amplifier 10 = .ok (.goto 11, 3) := by decide +kernel
theorem dL_amplifier_13 : decode cL_amplifier 13 = .ok (.astore 4, 2) := by decide +kernel
theorem dL_amplifier_15 : decode cL_amplifier 15 = .ok (.iconst 1, 1) := by decide +kernel
theorem dL_amplifier_16 : decode cL_amplifier 16 = .ok (.ireturn, 1) := by decide +kernel
theorem dL_amplifier_17 : decode cL_amplifier 17 = .ok (.astore 4, 2) := by decide +kernel
theorem dL_amplifier_19 : decode cL_amplifier 19 = .ok (.iconst 2, 1) := by decide +kernel
theorem dL_amplifier_20 : decode cL_amplifier 20 = .ok (.ireturn, 1) := by decide +kernel
theorem dL_amplifier_21 : decode cL_amplifier 21 = .ok (.iconst 0, 1) := by decide +kernel
theorem dL_amplifier_22 : decode cL_amplifier 22 = .ok (.ireturn, 1) := by decide +kernel
theorem dL_why_0 : decode cL_why 0 = .ok (.aload_n 2, 1) := by decide +kernel
theorem dL_why_1 : decode cL_why 1 = .ok (.iconst 0, 1) := by decide +kernel
theorem dL_why_2 : decode cL_why 2 = .ok (.aload_n 0, 1) := by decide +kernel
theorem dL_why_3 : decode cL_why 3 = .ok (.iload_n 1, 1) := by decide +kernel
theorem dL_why_4 : decode cL_why 4 = .ok (.invokevirtual 55, 3) := by decide +kernel
theorem dL_why_7 : decode cL_why 7 = .ok (.i2l, 1) := by decide +kernel
theorem dL_why_8 : decode cL_why 8 = .ok (.lastore, 1) := by decide +kernel
theorem dL_why_9 : decode cL_why 9 = .ok (.goto 6, 3) := by decide +kernel
theorem dL_why_12 : decode cL_why 12 = .ok (.astore_n 3, 1) := by decide +kernel
theorem dL_why_13 : decode cL_why 13 = .ok (.iconst 1, 1) := by decide +kernel
theorem dL_why_14 : decode cL_why 14 = .ok (.ireturn, 1) := by decide +kernel
theorem dL_why_15 : decode cL_why 15 = .ok (.iconst 0, 1) := by decide +kernel
theorem dL_why_16 : decode cL_why 16 = .ok (.ireturn, 1) := by decide +kernel
theorem dL_concerned_0 : decode cL_concerned 0 = .ok (.aload_n 2, 1) := by decide +kernel
theorem dL_concerned_1 : decode cL_concerned 1 = .ok (.iconst 0, 1) := by decide +kernel
theorem dL_concerned_2 : decode cL_concerned 2 = .ok (.aload_n 0, 1) := by decide +kernel
theorem dL_concerned_3 : decode cL_concerned 3 = .ok (.iload_n 1, 1) := by decide +kernel
theorem dL_concerned_4 : decode cL_concerned 4 = .ok (.invokevirtual 58, 3) := by decide +kernel
theorem dL_concerned_7 : decode cL_concerned 7 = .ok (.i2l, 1) := by decide +kernel
theorem dL_concerned_8 : decode cL_concerned 8 = .ok (.lastore, 1) := by decide +kernel
theorem dL_concerned_9 : decode cL_concerned 9 = .ok (.goto 6, 3) := by decide +kernel
theorem dL_concerned_12 : decode cL_concerned 12 = .ok (.astore_n 3, 1) := by decide +kernel
theorem dL_concerned_13 : decode cL_concerned 13 = .ok (.iconst 1, 1) := by decide +kernel
theorem dL_concerned_14 : decode cL_concerned 14 = .ok (.ireturn, 1) := by decide +kernel
theorem dL_concerned_15 : decode cL_concerned 15 = .ok (.iconst 0, 1) := by decide +kernel
theorem dL_concerned_16 : decode cL_concerned 16 = .ok (.ireturn, 1) := by decide +kernel
theorem dL_inCase_0 : decode cL_inCase 0 = .ok (.aload 4, 2) := by decide +kernel
theorem dL_inCase_2 : decode cL_inCase 2 = .ok (.iconst 0, 1) := by decide +kernel
theorem dL_inCase_3 : decode cL_inCase 3 = .ok (.aload_n 0, 1) := by decide +kernel
theorem dL_inCase_4 : decode cL_inCase 4 = .ok (.iload_n 1, 1) := by decide +kernel
theorem dL_inCase_5 : decode cL_inCase 5 = .ok (.iload_n 2, 1) := by decide +kernel
theorem dL_inCase_6 : decode cL_inCase 6 = .ok (.iload_n 3, 1) := by decide +kernel
theorem dL_inCase_7 : decode cL_inCase 7 = .ok (.invokevirtual 61, 3) := by decide +kernel
theorem dL_inCase_10 : decode cL_inCase 10 = .ok (.lastore, 1) := by decide +kernel
theorem dL_inCase_11 : decode cL_inCase 11 = .ok (.goto 11, 3) := by decide +kernel
theorem dL_inCase_14 : decode cL_inCase 14 = .ok (.astore 5, 2) := by decide +kernel
theorem dL_inCase_16 : decode cL_inCase 16 = .ok (.iconst 1, 1) := by decide +kernel
theorem dL_inCase_17 : decode cL_inCase 17 = .ok (.ireturn, 1) := by decide +kernel
theorem dL_inCase_18 : decode cL_inCase 18 = .ok (.astore 5, 2) := by decide +kernel
theorem dL_inCase_20 : decode cL_inCase 20 = .ok (.iconst 2, 1) := by decide +kernel
theorem dL_inCase_21 : decode cL_inCase 21 = .ok (.ireturn, 1) := by decide +kernel
theorem dL_inCase_22 : decode cL_inCase 22 = .ok (.iconst 0, 1) := by decide +kernel
theorem dL_inCase_23 : decode cL_inCase 23 = .ok (.ireturn, 1) := by decide +kernel
theorem dL_trip_0 : decode cL_trip 0 = .ok (.aload_n 3, 1) := by decide +kernel
theorem dL_trip_1 : decode cL_trip 1 = .ok (.iconst 0, 1) := by decide +kernel
theorem dL_trip_2 : decode cL_trip 2 = .ok (.aload_n 0, 1) := by decide +kernel
theorem dL_trip_3 : decode cL_trip 3 = .ok (.iload_n 1, 1) := by decide +kernel
theorem dL_trip_4 : decode cL_trip 4 = .ok (.iload_n 2, 1) := by decide +kernel
theorem dL_trip_5 : decode cL_trip 5 = .ok (.invokevirtual 65, 3) := by decide +kernel
theorem dL_trip_8 : decode cL_trip 8 = .ok (.i2l, 1) := by decide +kernel
theorem dL_trip_9 : decode cL_trip 9 = .ok (.lastore, 1) := by decide +kernel
theorem dL_trip_10 : decode cL_trip 10 = .ok (.goto 11, 3) := by decide +kernel
theorem dL_trip_13 : decode cL_trip 13 = .ok (.astore 4, 2) := by decide +kernel
theorem dL_trip_15 : decode cL_trip 15 = .ok (.iconst 1, 1) := by decide +kernel
theorem dL_trip_16 : decode cL_trip 16 = .ok (.ireturn, 1) := by decide +kernel
theorem dL_trip_17 : decode cL_trip 17 = .ok (.astore 4, 2) := by decide +kernel
theorem dL_trip_19 : decode cL_trip 19 = .ok (.iconst 2, 1) := by decide +kernel
theorem dL_trip_20 : decode cL_trip 20 = .ok (.ireturn, 1) := by decide +kernel
theorem dL_trip_21 : decode cL_trip 21 = .ok (.iconst 0, 1) := by decide +kernel
theorem dL_trip_22 : decode cL_trip 22 = .ok (.ireturn, 1) := by decide +kernel
theorem dL_ifValue_0 : decode cL_ifValue 0 = .ok (.aload_n 3, 1) := by decide +kernel
theorem dL_ifValue_1 : decode cL_ifValue 1 = .ok (.iconst 0, 1) := by decide +kernel
theorem dL_ifValue_2 : decode cL_ifValue 2 = .ok (.aload_n 0, 1) := by decide +kernel
theorem dL_ifValue_3 : decode cL_ifValue 3 = .ok (.iload_n 1, 1) := by decide +kernel
theorem dL_ifValue_4 : decode cL_ifValue 4 = .ok (.iload_n 2, 1) := by decide +kernel
theorem dL_ifValue_5 : decode cL_ifValue 5 = .ok (.invokevirtual 69, 3) := by decide +kernel
theorem dL_ifValue_8 : decode cL_ifValue 8 = .ok (.i2l, 1) := by decide +kernel
theorem dL_ifValue_9 : decode cL_ifValue 9 = .ok (.lastore, 1) := by decide +kernel
theorem dL_ifValue_10 : decode cL_ifValue 10 = .ok (.goto 15, 3) := by decide +kernel
theorem dL_ifValue_13 : decode cL_ifValue 13 = .ok (.astore 4, 2) := by decide +kernel
theorem dL_ifValue_15 : decode cL_ifValue 15 = .ok (.iconst 1, 1) := by decide +kernel
theorem dL_ifValue_16 : decode cL_ifValue 16 = .ok (.ireturn, 1) := by decide +kernel
theorem dL_ifValue_17 : decode cL_ifValue 17 = .ok (.astore 4, 2) := by decide +kernel
theorem dL_ifValue_19 : decode cL_ifValue 19 = .ok (.iconst 2, 1) := by decide +kernel
theorem dL_ifValue_20 : decode cL_ifValue 20 = .ok (.ireturn, 1) := by decide +kernel
theorem dL_ifValue_21 : decode cL_ifValue 21 = .ok (.astore 4, 2) := by decide +kernel
theorem dL_ifValue_23 : decode cL_ifValue 23 = .ok (.iconst 3, 1) := by decide +kernel
theorem dL_ifValue_24 : decode cL_ifValue 24 = .ok (.ireturn, 1) := by decide +kernel
theorem dL_ifValue_25 : decode cL_ifValue 25 = .ok (.iconst 0, 1) := by decide +kernel
theorem dL_ifValue_26 : decode cL_ifValue 26 = .ok (.ireturn, 1) := by decide +kernel
theorem dL_part_0 : decode cL_part 0 = .ok (.aload_n 3, 1) := by decide +kernel
theorem dL_part_1 : decode cL_part 1 = .ok (.iconst 0, 1) := by decide +kernel
theorem dL_part_2 : decode cL_part 2 = .ok (.aload_n 0, 1) := by decide +kernel
theorem dL_part_3 : decode cL_part 3 = .ok (.iload_n 1, 1) := by decide +kernel
theorem dL_part_4 : decode cL_part 4 = .ok (.iload_n 2, 1) := by decide +kernel
theorem dL_part_5 : decode cL_part 5 = .ok (.invokevirtual 72, 3) := by decide +kernel
theorem dL_part_8 : decode cL_part 8 = .ok (.i2l, 1) := by decide +kernel
theorem dL_part_9 : decode cL_part 9 = .ok (.lastore, 1) := by decide +kernel
theorem dL_part_10 : decode cL_part 10 = .ok (.goto 11, 3) := by decide +kernel
theorem dL_part_13 : decode cL_part 13 = .ok (.astore 4, 2) := by decide +kernel
theorem dL_part_15 : decode cL_part 15 = .ok (.iconst 1, 1) := by decide +kernel
theorem dL_part_16 : decode cL_part 16 = .ok (.ireturn, 1) := by decide +kernel
theorem dL_part_17 : decode cL_part 17 = .ok (.astore 4, 2) := by decide +kernel
theorem dL_part_19 : decode cL_part 19 = .ok (.iconst 2, 1) := by decide +kernel
theorem dL_part_20 : decode cL_part 20 = .ok (.ireturn, 1) := by decide +kernel
theorem dL_part_21 : decode cL_part 21 = .ok (.iconst 0, 1) := by decide +kernel
theorem dL_part_22 : decode cL_part 22 = .ok (.ireturn, 1) := by decide +kernel
theorem dL_count_0 : decode cL_count 0 = .ok (.aload_n 2, 1) := by decide +kernel
theorem dL_count_1 : decode cL_count 1 = .ok (.iconst 0, 1) := by decide +kernel
theorem dL_count_2 : decode cL_count 2 = .ok (.aload_n 0, 1) := by decide +kernel
theorem dL_count_3 : decode cL_count 3 = .ok (.iload_n 1, 1) := by decide +kernel
theorem dL_count_4 : decode cL_count 4 = .ok (.invokevirtual 75, 3) := by decide +kernel
theorem dL_count_7 : decode cL_count 7 = .ok (.i2l, 1) := by decide +kernel
theorem dL_count_8 : decode cL_count 8 = .ok (.lastore, 1) := by decide +kernel
theorem dL_count_9 : decode cL_count 9 = .ok (.goto 6, 3) := by decide +kernel
theorem dL_count_12 : decode cL_count 12 = .ok (.astore_n 3, 1) := by decide +kernel
theorem dL_count_13 : decode cL_count 13 = .ok (.iconst 1, 1) := by decide +kernel
theorem dL_count_14 : decode cL_count 14 = .ok (.ireturn, 1) := by decide +kernel
theorem dL_count_15 : decode cL_count 15 = .ok (.iconst 0, 1) := by decide +kernel
theorem dL_count_16 : decode cL_count 16 = .ok (.ireturn, 1) := by decide +kernel
theorem dL_law_0 : decode cL_law 0 = .ok (.new 8, 3) := by decide +kernel
theorem dL_law_3 : decode cL_law 3 = .ok (.dup, 1) := by decide +kernel
theorem dL_law_4 : decode cL_law 4 = .ok (.invokespecial 78, 3) := by decide +kernel
theorem dL_law_7 : decode cL_law 7 = .ok (.astore_n 1, 1) := by decide +kernel
theorem dL_law_8 : decode cL_law 8 = .ok (.new 79, 3) := by decide +kernel
theorem dL_law_11 : decode cL_law 11 = .ok (.dup, 1) := by decide +kernel
theorem dL_law_12 : decode cL_law 12 = .ok (.invokespecial 81, 3) := by decide +kernel
theorem dL_law_15 : decode cL_law 15 = .ok (.astore_n 2, 1) := by decide +kernel
theorem dL_law_16 : decode cL_law 16 = .ok (.iconst 1, 1) := by decide +kernel
theorem dL_law_17 : decode cL_law 17 = .ok (.newarray .long, 2) := by decide +kernel
theorem dL_law_19 : decode cL_law 19 = .ok (.astore_n 3, 1) := by decide +kernel
theorem dL_law_20 : decode cL_law 20 = .ok (.iconst 0, 1) := by decide +kernel
theorem dL_law_21 : decode cL_law 21 = .ok (.istore 4, 2) := by decide +kernel
theorem dL_law_23 : decode cL_law 23 = .ok (.iload 4, 2) := by decide +kernel
theorem dL_law_25 : decode cL_law 25 = .ok (.aload_n 0, 1) := by decide +kernel
theorem dL_law_26 : decode cL_law 26 = .ok (.arraylength, 1) := by decide +kernel
theorem dL_law_27 : decode cL_law 27 = .ok (.iconst 4, 1) := by decide +kernel
theorem dL_law_28 : decode cL_law 28 = .ok (.isub, 1) := by decide +kernel
theorem dL_law_29 : decode cL_law 29 = .ok (.if_icmp .gt 1392, 3) := by decide +kernel
theorem dL_law_32 : decode cL_law 32 = .ok (.aload_n 0, 1) := by decide +kernel
theorem dL_law_33 : decode cL_law 33 = .ok (.iload 4, 2) := by decide +kernel
theorem dL_law_35 : decode cL_law 35 = .ok (.iaload, 1) := by decide +kernel
theorem dL_law_36 : decode cL_law 36 = .ok (.bipush 31, 2) := by decide +kernel
theorem dL_law_38 : decode cL_law 38 = .ok (.iand, 1) := by decide +kernel
theorem dL_law_39 : decode cL_law 39 = .ok (.tableswitch 1376 0 23 #[109, 122, 166, 234, 290, 346, 414, 458, 514, 570, 626, 639, 652, 719, 786, 854, 910, 966, 1045, 1129, 1197, 1265, 1321, 1362], 109) := by decide +kernel
theorem dL_law_148 : decode cL_law 148 = .ok (.aload_n 1, 1) := by decide +kernel
theorem dL_law_149 : decode cL_law 149 = .ok (.invokevirtual 82, 3) := by decide +kernel
theorem dL_law_152 : decode cL_law 152 = .ok (.aload_n 2, 1) := by decide +kernel
theorem dL_law_153 : decode cL_law 153 = .ok (.invokevirtual 85, 3) := by decide +kernel
theorem dL_law_156 : decode cL_law 156 = .ok (.if_icmp .eq 1259, 3) := by decide +kernel
theorem dL_law_159 : decode cL_law 159 = .ok (.iconst 0, 1) := by decide +kernel
theorem dL_law_160 : decode cL_law 160 = .ok (.ireturn, 1) := by decide +kernel
theorem dL_law_161 : decode cL_law 161 = .ok (.aload_n 1, 1) := by decide +kernel
theorem dL_law_162 : decode cL_law 162 = .ok (.aload_n 3, 1) := by decide +kernel
theorem dL_law_163 : decode cL_law 163 = .ok (.invokestatic 86, 3) := by decide +kernel
theorem dL_law_166 : decode cL_law 166 = .ok (.istore 5, 2) := by decide +kernel
theorem dL_law_168 : decode cL_law 168 = .ok (.aload_n 2, 1) := by decide +kernel
theorem dL_law_169 : decode cL_law 169 = .ok (.invokevirtual 91, 3) := by decide +kernel
theorem dL_law_172 : decode cL_law 172 = .ok (.istore 6, 2) := by decide +kernel
theorem dL_law_174 : decode cL_law 174 = .ok (.aload_n 2, 1) := by decide +kernel
theorem dL_law_175 : decode cL_law 175 = .ok (.invokevirtual 92, 3) := by decide +kernel
theorem dL_law_178 : decode cL_law 178 = .ok (.iload 5, 2) := by decide +kernel
theorem dL_law_180 : decode cL_law 180 = .ok (.if_icmp .eq 5, 3) := by decide +kernel
theorem dL_law_183 : decode cL_law 183 = .ok (.iconst 0, 1) := by decide +kernel
theorem dL_law_184 : decode cL_law 184 = .ok (.ireturn, 1) := by decide +kernel
theorem dL_law_185 : decode cL_law 185 = .ok (.iload 5, 2) := by decide +kernel
theorem dL_law_187 : decode cL_law 187 = .ok (.ifCond .ne 15, 3) := by decide +kernel
theorem dL_law_190 : decode cL_law 190 = .ok (.aload_n 3, 1) := by decide +kernel
theorem dL_law_191 : decode cL_law 191 = .ok (.iconst 0, 1) := by decide +kernel
theorem dL_law_192 : decode cL_law 192 = .ok (.laload, 1) := by decide +kernel
theorem dL_law_193 : decode cL_law 193 = .ok (.iload 6, 2) := by decide +kernel
theorem dL_law_195 : decode cL_law 195 = .ok (.i2l, 1) := by decide +kernel
theorem dL_law_196 : decode cL_law 196 = .ok (.lcmp, 1) := by decide +kernel
theorem dL_law_197 : decode cL_law 197 = .ok (.ifCond .eq 5, 3) := by decide +kernel
theorem dL_law_200 : decode cL_law 200 = .ok (.iconst 0, 1) := by decide +kernel
theorem dL_law_201 : decode cL_law 201 = .ok (.ireturn, 1) := by decide +kernel
theorem dL_law_202 : decode cL_law 202 = .ok (.goto 1213, 3) := by decide +kernel
theorem dL_law_205 : decode cL_law 205 = .ok (.aload_n 1, 1) := by decide +kernel
theorem dL_law_206 : decode cL_law 206 = .ok (.aload_n 0, 1) := by decide +kernel
theorem dL_law_207 : decode cL_law 207 = .ok (.iload 4, 2) := by decide +kernel
theorem dL_law_209 : decode cL_law 209 = .ok (.iconst 1, 1) := by decide +kernel
theorem dL_law_210 : decode cL_law 210 = .ok (.iadd, 1) := by decide +kernel
theorem dL_law_211 : decode cL_law 211 = .ok (.iaload, 1) := by decide +kernel
theorem dL_law_212 : decode cL_law 212 = .ok (.aload_n 0, 1) := by decide +kernel
theorem dL_law_213 : decode cL_law 213 = .ok (.iload 4, 2) := by decide +kernel
theorem dL_law_215 : decode cL_law 215 = .ok (.iconst 2, 1) := by decide +kernel
theorem dL_law_216 : decode cL_law 216 = .ok (.iadd, 1) := by decide +kernel
theorem dL_law_217 : decode cL_law 217 = .ok (.iaload, 1) := by decide +kernel
theorem dL_law_218 : decode cL_law 218 = .ok (.aload_n 3, 1) := by decide +kernel
theorem dL_law_219 : decode cL_law 219 = .ok (.invokestatic 95, 3) := by decide +kernel
theorem dL_law_222 : decode cL_law 222 = .ok (.istore 5, 2) := by decide +kernel
theorem dL_law_224 : decode cL_law 224 = .ok (.aload_n 2, 1) := by decide +kernel
theorem dL_law_225 : decode cL_law 225 = .ok (.aload_n 0, 1) := by decide +kernel
theorem dL_law_226 : decode cL_law 226 = .ok (.iload 4, 2) := by decide +kernel
theorem dL_law_228 : decode cL_law 228 = .ok (.iconst 1, 1) := by decide +kernel
theorem dL_law_229 : decode cL_law 229 = .ok (.iadd, 1) := by decide +kernel
theorem dL_law_230 : decode cL_law 230 = .ok (.iaload, 1) := by decide +kernel
theorem dL_law_231 : decode cL_law 231 = .ok (.aload_n 0, 1) := by decide +kernel
theorem dL_law_232 : decode cL_law 232 = .ok (.iload 4, 2) := by decide +kernel
theorem dL_law_234 : decode cL_law 234 = .ok (.iconst 2, 1) := by decide +kernel
theorem dL_law_235 : decode cL_law 235 = .ok (.iadd, 1) := by decide +kernel
theorem dL_law_236 : decode cL_law 236 = .ok (.iaload, 1) := by decide +kernel
theorem dL_law_237 : decode cL_law 237 = .ok (.invokevirtual 98, 3) := by decide +kernel
theorem dL_law_240 : decode cL_law 240 = .ok (.istore 6, 2) := by decide +kernel
theorem dL_law_242 : decode cL_law 242 = .ok (.aload_n 2, 1) := by decide +kernel
theorem dL_law_243 : decode cL_law 243 = .ok (.invokevirtual 92, 3) := by decide +kernel
theorem dL_law_246 : decode cL_law 246 = .ok (.iload 5, 2) := by decide +kernel
theorem dL_law_248 : decode cL_law 248 = .ok (.if_icmp .eq 5, 3) := by decide +kernel
theorem dL_law_251 : decode cL_law 251 = .ok (.iconst 0, 1) := by decide +kernel
theorem dL_law_252 : decode cL_law 252 = .ok (.ireturn, 1) := by decide +kernel
theorem dL_law_253 : decode cL_law 253 = .ok (.iload 5, 2) := by decide +kernel
theorem dL_law_255 : decode cL_law 255 = .ok (.ifCond .ne 15, 3) := by decide +kernel
theorem dL_law_258 : decode cL_law 258 = .ok (.aload_n 3, 1) := by decide +kernel
theorem dL_law_259 : decode cL_law 259 = .ok (.iconst 0, 1) := by decide +kernel
theorem dL_law_260 : decode cL_law 260 = .ok (.laload, 1) := by decide +kernel
theorem dL_law_261 : decode cL_law 261 = .ok (.iload 6, 2) := by decide +kernel
theorem dL_law_263 : decode cL_law 263 = .ok (.i2l, 1) := by decide +kernel
theorem dL_law_264 : decode cL_law 264 = .ok (.lcmp, 1) := by decide +kernel
theorem dL_law_265 : decode cL_law 265 = .ok (.ifCond .eq 5, 3) := by decide +kernel
theorem dL_law_268 : decode cL_law 268 = .ok (.iconst 0, 1) := by decide +kernel
theorem dL_law_269 : decode cL_law 269 = .ok (.ireturn, 1) := by decide +kernel
theorem dL_law_270 : decode cL_law 270 = .ok (.goto 1145, 3) := by decide +kernel
theorem dL_law_273 : decode cL_law 273 = .ok (.aload_n 1, 1) := by decide +kernel
theorem dL_law_274 : decode cL_law 274 = .ok (.aload_n 0, 1) := by decide +kernel
theorem dL_law_275 : decode cL_law 275 = .ok (.iload 4, 2) := by decide +kernel
theorem dL_law_277 : decode cL_law 277 = .ok (.iconst 1, 1) := by decide +kernel
theorem dL_law_278 : decode cL_law 278 = .ok (.iadd, 1) := by decide +kernel
theorem dL_law_279 : decode cL_law 279 = .ok (.iaload, 1) := by decide +kernel
theorem dL_law_280 : decode cL_law 280 = .ok (.aload_n 3, 1) := by decide +kernel
theorem dL_law_281 : decode cL_law 281 = .ok (.invokestatic 99, 3) := by decide +kernel
theorem dL_law_284 : decode cL_law 284 = .ok (.istore 5, 2) := by decide +kernel
theorem dL_law_286 : decode cL_law 286 = .ok (.aload_n 2, 1) := by decide +kernel
theorem dL_law_287 : decode cL_law 287 = .ok (.aload_n 0, 1) := by decide +kernel
theorem dL_law_288 : decode cL_law 288 = .ok (.iload 4, 2) := by decide +kernel
theorem dL_law_290 : decode cL_law 290 = .ok (.iconst 1, 1) := by decide +kernel
theorem dL_law_291 : decode cL_law 291 = .ok (.iadd, 1) := by decide +kernel
theorem dL_law_292 : decode cL_law 292 = .ok (.iaload, 1) := by decide +kernel
theorem dL_law_293 : decode cL_law 293 = .ok (.invokevirtual 102, 3) := by decide +kernel
theorem dL_law_296 : decode cL_law 296 = .ok (.istore 6, 2) := by decide +kernel
theorem dL_law_298 : decode cL_law 298 = .ok (.aload_n 2, 1) := by decide +kernel
theorem dL_law_299 : decode cL_law 299 = .ok (.invokevirtual 92, 3) := by decide +kernel
theorem dL_law_302 : decode cL_law 302 = .ok (.iload 5, 2) := by decide +kernel
theorem dL_law_304 : decode cL_law 304 = .ok (.if_icmp .eq 5, 3) := by decide +kernel
theorem dL_law_307 : decode cL_law 307 = .ok (.iconst 0, 1) := by decide +kernel
theorem dL_law_308 : decode cL_law 308 = .ok (.ireturn, 1) := by decide +kernel
theorem dL_law_309 : decode cL_law 309 = .ok (.iload 5, 2) := by decide +kernel
theorem dL_law_311 : decode cL_law 311 = .ok (.ifCond .ne 15, 3) := by decide +kernel
theorem dL_law_314 : decode cL_law 314 = .ok (.aload_n 3, 1) := by decide +kernel
theorem dL_law_315 : decode cL_law 315 = .ok (.iconst 0, 1) := by decide +kernel
theorem dL_law_316 : decode cL_law 316 = .ok (.laload, 1) := by decide +kernel
theorem dL_law_317 : decode cL_law 317 = .ok (.iload 6, 2) := by decide +kernel
theorem dL_law_319 : decode cL_law 319 = .ok (.i2l, 1) := by decide +kernel
theorem dL_law_320 : decode cL_law 320 = .ok (.lcmp, 1) := by decide +kernel
theorem dL_law_321 : decode cL_law 321 = .ok (.ifCond .eq 5, 3) := by decide +kernel
theorem dL_law_324 : decode cL_law 324 = .ok (.iconst 0, 1) := by decide +kernel
theorem dL_law_325 : decode cL_law 325 = .ok (.ireturn, 1) := by decide +kernel
theorem dL_law_326 : decode cL_law 326 = .ok (.goto 1089, 3) := by decide +kernel
theorem dL_law_329 : decode cL_law 329 = .ok (.aload_n 1, 1) := by decide +kernel
theorem dL_law_330 : decode cL_law 330 = .ok (.aload_n 0, 1) := by decide +kernel
theorem dL_law_331 : decode cL_law 331 = .ok (.iload 4, 2) := by decide +kernel
theorem dL_law_333 : decode cL_law 333 = .ok (.iconst 1, 1) := by decide +kernel
theorem dL_law_334 : decode cL_law 334 = .ok (.iadd, 1) := by decide +kernel
theorem dL_law_335 : decode cL_law 335 = .ok (.iaload, 1) := by decide +kernel
theorem dL_law_336 : decode cL_law 336 = .ok (.aload_n 3, 1) := by decide +kernel
theorem dL_law_337 : decode cL_law 337 = .ok (.invokestatic 103, 3) := by decide +kernel
theorem dL_law_340 : decode cL_law 340 = .ok (.istore 5, 2) := by decide +kernel
theorem dL_law_342 : decode cL_law 342 = .ok (.aload_n 2, 1) := by decide +kernel
theorem dL_law_343 : decode cL_law 343 = .ok (.aload_n 0, 1) := by decide +kernel
theorem dL_law_344 : decode cL_law 344 = .ok (.iload 4, 2) := by decide +kernel
theorem dL_law_346 : decode cL_law 346 = .ok (.iconst 1, 1) := by decide +kernel
theorem dL_law_347 : decode cL_law 347 = .ok (.iadd, 1) := by decide +kernel
theorem dL_law_348 : decode cL_law 348 = .ok (.iaload, 1) := by decide +kernel
theorem dL_law_349 : decode cL_law 349 = .ok (.invokevirtual 105, 3) := by decide +kernel
theorem dL_law_352 : decode cL_law 352 = .ok (.istore 6, 2) := by decide +kernel
theorem dL_law_354 : decode cL_law 354 = .ok (.aload_n 2, 1) := by decide +kernel
theorem dL_law_355 : decode cL_law 355 = .ok (.invokevirtual 92, 3) := by decide +kernel
theorem dL_law_358 : decode cL_law 358 = .ok (.iload 5, 2) := by decide +kernel
theorem dL_law_360 : decode cL_law 360 = .ok (.if_icmp .eq 5, 3) := by decide +kernel
theorem dL_law_363 : decode cL_law 363 = .ok (.iconst 0, 1) := by decide +kernel
theorem dL_law_364 : decode cL_law 364 = .ok (.ireturn, 1) := by decide +kernel
theorem dL_law_365 : decode cL_law 365 = .ok (.iload 5, 2) := by decide +kernel
theorem dL_law_367 : decode cL_law 367 = .ok (.ifCond .ne 15, 3) := by decide +kernel
theorem dL_law_370 : decode cL_law 370 = .ok (.aload_n 3, 1) := by decide +kernel
theorem dL_law_371 : decode cL_law 371 = .ok (.iconst 0, 1) := by decide +kernel
theorem dL_law_372 : decode cL_law 372 = .ok (.laload, 1) := by decide +kernel
theorem dL_law_373 : decode cL_law 373 = .ok (.iload 6, 2) := by decide +kernel
theorem dL_law_375 : decode cL_law 375 = .ok (.i2l, 1) := by decide +kernel
theorem dL_law_376 : decode cL_law 376 = .ok (.lcmp, 1) := by decide +kernel
theorem dL_law_377 : decode cL_law 377 = .ok (.ifCond .eq 5, 3) := by decide +kernel
theorem dL_law_380 : decode cL_law 380 = .ok (.iconst 0, 1) := by decide +kernel
theorem dL_law_381 : decode cL_law 381 = .ok (.ireturn, 1) := by decide +kernel
theorem dL_law_382 : decode cL_law 382 = .ok (.goto 1033, 3) := by decide +kernel
theorem dL_law_385 : decode cL_law 385 = .ok (.aload_n 1, 1) := by decide +kernel
theorem dL_law_386 : decode cL_law 386 = .ok (.aload_n 0, 1) := by decide +kernel
theorem dL_law_387 : decode cL_law 387 = .ok (.iload 4, 2) := by decide +kernel
theorem dL_law_389 : decode cL_law 389 = .ok (.iconst 1, 1) := by decide +kernel
theorem dL_law_390 : decode cL_law 390 = .ok (.iadd, 1) := by decide +kernel
theorem dL_law_391 : decode cL_law 391 = .ok (.iaload, 1) := by decide +kernel
theorem dL_law_392 : decode cL_law 392 = .ok (.aload_n 0, 1) := by decide +kernel
theorem dL_law_393 : decode cL_law 393 = .ok (.iload 4, 2) := by decide +kernel
theorem dL_law_395 : decode cL_law 395 = .ok (.iconst 2, 1) := by decide +kernel
theorem dL_law_396 : decode cL_law 396 = .ok (.iadd, 1) := by decide +kernel
theorem dL_law_397 : decode cL_law 397 = .ok (.iaload, 1) := by decide +kernel
theorem dL_law_398 : decode cL_law 398 = .ok (.aload_n 3, 1) := by decide +kernel
theorem dL_law_399 : decode cL_law 399 = .ok (.invokestatic 106, 3) := by decide +kernel
theorem dL_law_402 : decode cL_law 402 = .ok (.istore 5, 2) := by decide +kernel
theorem dL_law_404 : decode cL_law 404 = .ok (.aload_n 2, 1) := by decide +kernel
theorem dL_law_405 : decode cL_law 405 = .ok (.aload_n 0, 1) := by decide +kernel
theorem dL_law_406 : decode cL_law 406 = .ok (.iload 4, 2) := by decide +kernel
theorem dL_law_408 : decode cL_law 408 = .ok (.iconst 1, 1) := by decide +kernel
theorem dL_law_409 : decode cL_law 409 = .ok (.iadd, 1) := by decide +kernel
theorem dL_law_410 : decode cL_law 410 = .ok (.iaload, 1) := by decide +kernel
theorem dL_law_411 : decode cL_law 411 = .ok (.aload_n 0, 1) := by decide +kernel
theorem dL_law_412 : decode cL_law 412 = .ok (.iload 4, 2) := by decide +kernel
theorem dL_law_414 : decode cL_law 414 = .ok (.iconst 2, 1) := by decide +kernel
theorem dL_law_415 : decode cL_law 415 = .ok (.iadd, 1) := by decide +kernel
theorem dL_law_416 : decode cL_law 416 = .ok (.iaload, 1) := by decide +kernel
theorem dL_law_417 : decode cL_law 417 = .ok (.invokevirtual 108, 3) := by decide +kernel
theorem dL_law_420 : decode cL_law 420 = .ok (.istore 6, 2) := by decide +kernel
theorem dL_law_422 : decode cL_law 422 = .ok (.aload_n 2, 1) := by decide +kernel
theorem dL_law_423 : decode cL_law 423 = .ok (.invokevirtual 92, 3) := by decide +kernel
theorem dL_law_426 : decode cL_law 426 = .ok (.iload 5, 2) := by decide +kernel
theorem dL_law_428 : decode cL_law 428 = .ok (.if_icmp .eq 5, 3) := by decide +kernel
theorem dL_law_431 : decode cL_law 431 = .ok (.iconst 0, 1) := by decide +kernel
theorem dL_law_432 : decode cL_law 432 = .ok (.ireturn, 1) := by decide +kernel
theorem dL_law_433 : decode cL_law 433 = .ok (.iload 5, 2) := by decide +kernel
theorem dL_law_435 : decode cL_law 435 = .ok (.ifCond .ne 15, 3) := by decide +kernel
theorem dL_law_438 : decode cL_law 438 = .ok (.aload_n 3, 1) := by decide +kernel
theorem dL_law_439 : decode cL_law 439 = .ok (.iconst 0, 1) := by decide +kernel
theorem dL_law_440 : decode cL_law 440 = .ok (.laload, 1) := by decide +kernel
theorem dL_law_441 : decode cL_law 441 = .ok (.iload 6, 2) := by decide +kernel
theorem dL_law_443 : decode cL_law 443 = .ok (.i2l, 1) := by decide +kernel
theorem dL_law_444 : decode cL_law 444 = .ok (.lcmp, 1) := by decide +kernel
theorem dL_law_445 : decode cL_law 445 = .ok (.ifCond .eq 5, 3) := by decide +kernel
theorem dL_law_448 : decode cL_law 448 = .ok (.iconst 0, 1) := by decide +kernel
theorem dL_law_449 : decode cL_law 449 = .ok (.ireturn, 1) := by decide +kernel
theorem dL_law_450 : decode cL_law 450 = .ok (.goto 965, 3) := by decide +kernel
theorem dL_law_453 : decode cL_law 453 = .ok (.aload_n 1, 1) := by decide +kernel
theorem dL_law_454 : decode cL_law 454 = .ok (.aload_n 3, 1) := by decide +kernel
theorem dL_law_455 : decode cL_law 455 = .ok (.invokestatic 109, 3) := by decide +kernel
theorem dL_law_458 : decode cL_law 458 = .ok (.istore 5, 2) := by decide +kernel
theorem dL_law_460 : decode cL_law 460 = .ok (.aload_n 2, 1) := by decide +kernel
theorem dL_law_461 : decode cL_law 461 = .ok (.invokevirtual 111, 3) := by decide +kernel
theorem dL_law_464 : decode cL_law 464 = .ok (.istore 6, 2) := by decide +kernel
theorem dL_law_466 : decode cL_law 466 = .ok (.aload_n 2, 1) := by decide +kernel
theorem dL_law_467 : decode cL_law 467 = .ok (.invokevirtual 92, 3) := by decide +kernel
theorem dL_law_470 : decode cL_law 470 = .ok (.iload 5, 2) := by decide +kernel
theorem dL_law_472 : decode cL_law 472 = .ok (.if_icmp .eq 5, 3) := by decide +kernel
theorem dL_law_475 : decode cL_law 475 = .ok (.iconst 0, 1) := by decide +kernel
end
section
theorem dL_law_476 : decode cL_law 476 = .ok (.ireturn, 1) := by decide +kernel
theorem dL_law_477 : decode cL_law 477 = .ok (.iload 5, 2) := by decide +kernel
theorem dL_law_479 : decode cL_law 479 = .ok (.ifCond .ne 15, 3) := by decide +kernel
theorem dL_law_482 : decode cL_law 482 = .ok (.aload_n 3, 1) := by decide +kernel
theorem dL_law_483 : decode cL_law 483 = .ok (.iconst 0, 1) := by decide +kernel
theorem dL_law_484 : decode cL_law 484 = .ok (.laload, 1) := by decide +kernel
theorem dL_law_485 : decode cL_law 485 = .ok (.iload 6, 2) := by decide +kernel
theorem dL_law_487 : decode cL_law 487 = .ok (.i2l, 1) := by decide +kernel
theorem dL_law_488 : decode cL_law 488 = .ok (.lcmp, 1) := by decide +kernel
theorem dL_law_489 : decode cL_law 489 = .ok (.ifCond .eq 5, 3) := by decide +kernel
theorem dL_law_492 : decode cL_law 492 = .ok (.iconst 0, 1) := by decide +kernel
theorem dL_law_493 : decode cL_law 493 = .ok (.ireturn, 1) := by decide +kernel
theorem dL_law_494 : decode cL_law 494 = .ok (.goto 921, 3) := by decide +kernel
theorem dL_law_497 : decode cL_law 497 = .ok (.aload_n 1, 1) := by decide +kernel
theorem dL_law_498 : decode cL_law 498 = .ok (.aload_n 0, 1) := by decide +kernel
theorem dL_law_499 : decode cL_law 499 = .ok (.iload 4, 2) := by decide +kernel
theorem dL_law_501 : decode cL_law 501 = .ok (.iconst 1, 1) := by decide +kernel
theorem dL_law_502 : decode cL_law 502 = .ok (.iadd, 1) := by decide +kernel
theorem dL_law_503 : decode cL_law 503 = .ok (.iaload, 1) := by decide +kernel
theorem dL_law_504 : decode cL_law 504 = .ok (.aload_n 3, 1) := by decide +kernel
theorem dL_law_505 : decode cL_law 505 = .ok (.invokestatic 112, 3) := by decide +kernel
theorem dL_law_508 : decode cL_law 508 = .ok (.istore 5, 2) := by decide +kernel
theorem dL_law_510 : decode cL_law 510 = .ok (.aload_n 2, 1) := by decide +kernel
theorem dL_law_511 : decode cL_law 511 = .ok (.aload_n 0, 1) := by decide +kernel
theorem dL_law_512 : decode cL_law 512 = .ok (.iload 4, 2) := by decide +kernel
theorem dL_law_514 : decode cL_law 514 = .ok (.iconst 1, 1) := by decide +kernel
theorem dL_law_515 : decode cL_law 515 = .ok (.iadd, 1) := by decide +kernel
theorem dL_law_516 : decode cL_law 516 = .ok (.iaload, 1) := by decide +kernel
theorem dL_law_517 : decode cL_law 517 = .ok (.invokevirtual 114, 3) := by decide +kernel
theorem dL_law_520 : decode cL_law 520 = .ok (.istore 6, 2) := by decide +kernel
theorem dL_law_522 : decode cL_law 522 = .ok (.aload_n 2, 1) := by decide +kernel
theorem dL_law_523 : decode cL_law 523 = .ok (.invokevirtual 92, 3) := by decide +kernel
theorem dL_law_526 : decode cL_law 526 = .ok (.iload 5, 2) := by decide +kernel
theorem dL_law_528 : decode cL_law 528 = .ok (.if_icmp .eq 5, 3) := by decide +kernel
theorem dL_law_531 : decode cL_law 531 = .ok (.iconst 0, 1) := by decide +kernel
theorem dL_law_532 : decode cL_law 532 = .ok (.ireturn, 1) := by decide +kernel
theorem dL_law_533 : decode cL_law 533 = .ok (.iload 5, 2) := by decide +kernel
theorem dL_law_535 : decode cL_law 535 = .ok (.ifCond .ne 15, 3) := by decide +kernel
theorem dL_law_538 : decode cL_law 538 = .ok (.aload_n 3, 1) := by decide +kernel
theorem dL_law_539 : decode cL_law 539 = .ok (.iconst 0, 1) := by decide +kernel
theorem dL_law_540 : decode cL_law 540 = .ok (.laload, 1) := by decide +kernel
theorem dL_law_541 : decode cL_law 541 = .ok (.iload 6, 2) := by decide +kernel
theorem dL_law_543 : decode cL_law 543 = .ok (.i2l, 1) := by decide +kernel
theorem dL_law_544 : decode cL_law 544 = .ok (.lcmp, 1) := by decide +kernel
theorem dL_law_545 : decode cL_law 545 = .ok (.ifCond .eq 5, 3) := by decide +kernel
theorem dL_law_548 : decode cL_law 548 = .ok (.iconst 0, 1) := by decide +kernel
theorem dL_law_549 : decode cL_law 549 = .ok (.ireturn, 1) := by decide +kernel
theorem dL_law_550 : decode cL_law 550 = .ok (.goto 865, 3) := by decide +kernel
theorem dL_law_553 : decode cL_law 553 = .ok (.aload_n 1, 1) := by decide +kernel
theorem dL_law_554 : decode cL_law 554 = .ok (.aload_n 0, 1) := by decide +kernel
theorem dL_law_555 : decode cL_law 555 = .ok (.iload 4, 2) := by decide +kernel
theorem dL_law_557 : decode cL_law 557 = .ok (.iconst 1, 1) := by decide +kernel
theorem dL_law_558 : decode cL_law 558 = .ok (.iadd, 1) := by decide +kernel
theorem dL_law_559 : decode cL_law 559 = .ok (.iaload, 1) := by decide +kernel
theorem dL_law_560 : decode cL_law 560 = .ok (.aload_n 3, 1) := by decide +kernel
theorem dL_law_561 : decode cL_law 561 = .ok (.invokestatic 115, 3) := by decide +kernel
theorem dL_law_564 : decode cL_law 564 = .ok (.istore 5, 2) := by decide +kernel
theorem dL_law_566 : decode cL_law 566 = .ok (.aload_n 2, 1) := by decide +kernel
theorem dL_law_567 : decode cL_law 567 = .ok (.aload_n 0, 1) := by decide +kernel
theorem dL_law_568 : decode cL_law 568 = .ok (.iload 4, 2) := by decide +kernel
theorem dL_law_570 : decode cL_law 570 = .ok (.iconst 1, 1) := by decide +kernel
theorem dL_law_571 : decode cL_law 571 = .ok (.iadd, 1) := by decide +kernel
theorem dL_law_572 : decode cL_law 572 = .ok (.iaload, 1) := by decide +kernel
theorem dL_law_573 : decode cL_law 573 = .ok (.invokevirtual 117, 3) := by decide +kernel
theorem dL_law_576 : decode cL_law 576 = .ok (.istore 6, 2) := by decide +kernel
theorem dL_law_578 : decode cL_law 578 = .ok (.aload_n 2, 1) := by decide +kernel
theorem dL_law_579 : decode cL_law 579 = .ok (.invokevirtual 92, 3) := by decide +kernel
theorem dL_law_582 : decode cL_law 582 = .ok (.iload 5, 2) := by decide +kernel
theorem dL_law_584 : decode cL_law 584 = .ok (.if_icmp .eq 5, 3) := by decide +kernel
theorem dL_law_587 : decode cL_law 587 = .ok (.iconst 0, 1) := by decide +kernel
theorem dL_law_588 : decode cL_law 588 = .ok (.ireturn, 1) := by decide +kernel
theorem dL_law_589 : decode cL_law 589 = .ok (.iload 5, 2) := by decide +kernel
theorem dL_law_591 : decode cL_law 591 = .ok (.ifCond .ne 15, 3) := by decide +kernel
theorem dL_law_594 : decode cL_law 594 = .ok (.aload_n 3, 1) := by decide +kernel
theorem dL_law_595 : decode cL_law 595 = .ok (.iconst 0, 1) := by decide +kernel
theorem dL_law_596 : decode cL_law 596 = .ok (.laload, 1) := by decide +kernel
theorem dL_law_597 : decode cL_law 597 = .ok (.iload 6, 2) := by decide +kernel
theorem dL_law_599 : decode cL_law 599 = .ok (.i2l, 1) := by decide +kernel
theorem dL_law_600 : decode cL_law 600 = .ok (.lcmp, 1) := by decide +kernel
theorem dL_law_601 : decode cL_law 601 = .ok (.ifCond .eq 5, 3) := by decide +kernel
theorem dL_law_604 : decode cL_law 604 = .ok (.iconst 0, 1) := by decide +kernel
theorem dL_law_605 : decode cL_law 605 = .ok (.ireturn, 1) := by decide +kernel
theorem dL_law_606 : decode cL_law 606 = .ok (.goto 809, 3) := by decide +kernel
theorem dL_law_609 : decode cL_law 609 = .ok (.aload_n 1, 1) := by decide +kernel
theorem dL_law_610 : decode cL_law 610 = .ok (.aload_n 0, 1) := by decide +kernel
theorem dL_law_611 : decode cL_law 611 = .ok (.iload 4, 2) := by decide +kernel
theorem dL_law_613 : decode cL_law 613 = .ok (.iconst 1, 1) := by decide +kernel
theorem dL_law_614 : decode cL_law 614 = .ok (.iadd, 1) := by decide +kernel
theorem dL_law_615 : decode cL_law 615 = .ok (.iaload, 1) := by decide +kernel
theorem dL_law_616 : decode cL_law 616 = .ok (.aload_n 3, 1) := by decide +kernel
theorem dL_law_617 : decode cL_law 617 = .ok (.invokestatic 118, 3) := by decide +kernel
theorem dL_law_620 : decode cL_law 620 = .ok (.istore 5, 2) := by decide +kernel
theorem dL_law_622 : decode cL_law 622 = .ok (.aload_n 2, 1) := by decide +kernel
theorem dL_law_623 : decode cL_law 623 = .ok (.aload_n 0, 1) := by decide +kernel
theorem dL_law_624 : decode cL_law 624 = .ok (.iload 4, 2) := by decide +kernel
theorem dL_law_626 : decode cL_law 626 = .ok (.iconst 1, 1) := by decide +kernel
theorem dL_law_627 : decode cL_law 627 = .ok (.iadd, 1) := by decide +kernel
theorem dL_law_628 : decode cL_law 628 = .ok (.iaload, 1) := by decide +kernel
theorem dL_law_629 : decode cL_law 629 = .ok (.invokevirtual 120, 3) := by decide +kernel
theorem dL_law_632 : decode cL_law 632 = .ok (.istore 6, 2) := by decide +kernel
theorem dL_law_634 : decode cL_law 634 = .ok (.aload_n 2, 1) := by decide +kernel
theorem dL_law_635 : decode cL_law 635 = .ok (.invokevirtual 92, 3) := by decide +kernel
theorem dL_law_638 : decode cL_law 638 = .ok (.iload 5, 2) := by decide +kernel
theorem dL_law_640 : decode cL_law 640 = .ok (.if_icmp .eq 5, 3) := by decide +kernel
theorem dL_law_643 : decode cL_law 643 = .ok (.iconst 0, 1) := by decide +kernel
theorem dL_law_644 : decode cL_law 644 = .ok (.ireturn, 1) := by decide +kernel
theorem dL_law_645 : decode cL_law 645 = .ok (.iload 5, 2) := by decide +kernel
theorem dL_law_647 : decode cL_law 647 = .ok (.ifCond .ne 15, 3) := by decide +kernel
theorem dL_law_650 : decode cL_law 650 = .ok (.aload_n 3, 1) := by decide +kernel
theorem dL_law_651 : decode cL_law 651 = .ok (.iconst 0, 1) := by decide +kernel
theorem dL_law_652 : decode cL_law 652 = .ok (.laload, 1) := by decide +kernel
theorem dL_law_653 : decode cL_law 653 = .ok (.iload 6, 2) := by decide +kernel
theorem dL_law_655 : decode cL_law 655 = .ok (.i2l, 1) := by decide +kernel
theorem dL_law_656 : decode cL_law 656 = .ok (.lcmp, 1) := by decide +kernel
theorem dL_law_657 : decode cL_law 657 = .ok (.ifCond .eq 5, 3) := by decide +kernel
theorem dL_law_660 : decode cL_law 660 = .ok (.iconst 0, 1) := by decide +kernel
theorem dL_law_661 : decode cL_law 661 = .ok (.ireturn, 1) := by decide +kernel
theorem dL_law_662 : decode cL_law 662 = .ok (.goto 753, 3) := by decide +kernel
theorem dL_law_665 : decode cL_law 665 = .ok (.aload_n 1, 1) := by decide +kernel
theorem dL_law_666 : decode cL_law 666 = .ok (.invokevirtual 121, 3) := by decide +kernel
theorem dL_law_669 : decode cL_law 669 = .ok (.aload_n 2, 1) := by decide +kernel
theorem dL_law_670 : decode cL_law 670 = .ok (.invokevirtual 124, 3) := by decide +kernel
theorem dL_law_673 : decode cL_law 673 = .ok (.if_icmp .eq 742, 3) := by decide +kernel
theorem dL_law_676 : decode cL_law 676 = .ok (.iconst 0, 1) := by decide +kernel
theorem dL_law_677 : decode cL_law 677 = .ok (.ireturn, 1) := by decide +kernel
theorem dL_law_678 : decode cL_law 678 = .ok (.aload_n 1, 1) := by decide +kernel
theorem dL_law_679 : decode cL_law 679 = .ok (.invokevirtual 125, 3) := by decide +kernel
theorem dL_law_682 : decode cL_law 682 = .ok (.aload_n 2, 1) := by decide +kernel
theorem dL_law_683 : decode cL_law 683 = .ok (.invokevirtual 128, 3) := by decide +kernel
theorem dL_law_686 : decode cL_law 686 = .ok (.if_icmp .eq 729, 3) := by decide +kernel
theorem dL_law_689 : decode cL_law 689 = .ok (.iconst 0, 1) := by decide +kernel
theorem dL_law_690 : decode cL_law 690 = .ok (.ireturn, 1) := by decide +kernel
theorem dL_law_691 : decode cL_law 691 = .ok (.aload_n 1, 1) := by decide +kernel
theorem dL_law_692 : decode cL_law 692 = .ok (.aload_n 0, 1) := by decide +kernel
theorem dL_law_693 : decode cL_law 693 = .ok (.iload 4, 2) := by decide +kernel
theorem dL_law_695 : decode cL_law 695 = .ok (.iconst 1, 1) := by decide +kernel
theorem dL_law_696 : decode cL_law 696 = .ok (.iadd, 1) := by decide +kernel
theorem dL_law_697 : decode cL_law 697 = .ok (.iaload, 1) := by decide +kernel
theorem dL_law_698 : decode cL_law 698 = .ok (.aload_n 0, 1) := by decide +kernel
theorem dL_law_699 : decode cL_law 699 = .ok (.iload 4, 2) := by decide +kernel
theorem dL_law_701 : decode cL_law 701 = .ok (.iconst 2, 1) := by decide +kernel
theorem dL_law_702 : decode cL_law 702 = .ok (.iadd, 1) := by decide +kernel
theorem dL_law_703 : decode cL_law 703 = .ok (.iaload, 1) := by decide +kernel
theorem dL_law_704 : decode cL_law 704 = .ok (.aload_n 3, 1) := by decide +kernel
theorem dL_law_705 : decode cL_law 705 = .ok (.invokestatic 129, 3) := by decide +kernel
theorem dL_law_708 : decode cL_law 708 = .ok (.istore 5, 2) := by decide +kernel
theorem dL_law_710 : decode cL_law 710 = .ok (.aload_n 2, 1) := by decide +kernel
theorem dL_law_711 : decode cL_law 711 = .ok (.aload_n 0, 1) := by decide +kernel
theorem dL_law_712 : decode cL_law 712 = .ok (.iload 4, 2) := by decide +kernel
theorem dL_law_714 : decode cL_law 714 = .ok (.iconst 1, 1) := by decide +kernel
theorem dL_law_715 : decode cL_law 715 = .ok (.iadd, 1) := by decide +kernel
theorem dL_law_716 : decode cL_law 716 = .ok (.iaload, 1) := by decide +kernel
theorem dL_law_717 : decode cL_law 717 = .ok (.aload_n 0, 1) := by decide +kernel
theorem dL_law_718 : decode cL_law 718 = .ok (.iload 4, 2) := by decide +kernel
theorem dL_law_720 : decode cL_law 720 = .ok (.iconst 2, 1) := by decide +kernel
theorem dL_law_721 : decode cL_law 721 = .ok (.iadd, 1) := by decide +kernel
theorem dL_law_722 : decode cL_law 722 = .ok (.iaload, 1) := by decide +kernel
theorem dL_law_723 : decode cL_law 723 = .ok (.invokevirtual 131, 3) := by decide +kernel
theorem dL_law_726 : decode cL_law 726 = .ok (.lstore 6, 2) := by decide +kernel
theorem dL_law_728 : decode cL_law 728 = .ok (.aload_n 2, 1) := by decide +kernel
theorem dL_law_729 : decode cL_law 729 = .ok (.invokevirtual 92, 3) := by decide +kernel
theorem dL_law_732 : decode cL_law 732 = .ok (.iload 5, 2) := by decide +kernel
theorem dL_law_734 : decode cL_law 734 = .ok (.if_icmp .eq 5, 3) := by decide +kernel
theorem dL_law_737 : decode cL_law 737 = .ok (.iconst 0, 1) := by decide +kernel
theorem dL_law_738 : decode cL_law 738 = .ok (.ireturn, 1) := by decide +kernel
theorem dL_law_739 : decode cL_law 739 = .ok (.iload 5, 2) := by decide +kernel
theorem dL_law_741 : decode cL_law 741 = .ok (.ifCond .ne 14, 3) := by decide +kernel
theorem dL_law_744 : decode cL_law 744 = .ok (.aload_n 3, 1) := by decide +kernel
theorem dL_law_745 : decode cL_law 745 = .ok (.iconst 0, 1) := by decide +kernel
theorem dL_law_746 : decode cL_law 746 = .ok (.laload, 1) := by decide +kernel
theorem dL_law_747 : decode cL_law 747 = .ok (.lload 6, 2) := by decide +kernel
theorem dL_law_749 : decode cL_law 749 = .ok (.lcmp, 1) := by decide +kernel
theorem dL_law_750 : decode cL_law 750 = .ok (.ifCond .eq 5, 3) := by decide +kernel
theorem dL_law_753 : decode cL_law 753 = .ok (.iconst 0, 1) := by decide +kernel
theorem dL_law_754 : decode cL_law 754 = .ok (.ireturn, 1) := by decide +kernel
theorem dL_law_755 : decode cL_law 755 = .ok (.goto 660, 3) := by decide +kernel
theorem dL_law_758 : decode cL_law 758 = .ok (.aload_n 1, 1) := by decide +kernel
theorem dL_law_759 : decode cL_law 759 = .ok (.aload_n 0, 1) := by decide +kernel
theorem dL_law_760 : decode cL_law 760 = .ok (.iload 4, 2) := by decide +kernel
theorem dL_law_762 : decode cL_law 762 = .ok (.iconst 1, 1) := by decide +kernel
theorem dL_law_763 : decode cL_law 763 = .ok (.iadd, 1) := by decide +kernel
theorem dL_law_764 : decode cL_law 764 = .ok (.iaload, 1) := by decide +kernel
theorem dL_law_765 : decode cL_law 765 = .ok (.aload_n 0, 1) := by decide +kernel
theorem dL_law_766 : decode cL_law 766 = .ok (.iload 4, 2) := by decide +kernel
theorem dL_law_768 : decode cL_law 768 = .ok (.iconst 2, 1) := by decide +kernel
theorem dL_law_769 : decode cL_law 769 = .ok (.iadd, 1) := by decide +kernel
theorem dL_law_770 : decode cL_law 770 = .ok (.iaload, 1) := by decide +kernel
theorem dL_law_771 : decode cL_law 771 = .ok (.aload_n 3, 1) := by decide +kernel
theorem dL_law_772 : decode cL_law 772 = .ok (.invokestatic 132, 3) := by decide +kernel
theorem dL_law_775 : decode cL_law 775 = .ok (.istore 5, 2) := by decide +kernel
theorem dL_law_777 : decode cL_law 777 = .ok (.aload_n 2, 1) := by decide +kernel
theorem dL_law_778 : decode cL_law 778 = .ok (.aload_n 0, 1) := by decide +kernel
theorem dL_law_779 : decode cL_law 779 = .ok (.iload 4, 2) := by decide +kernel
theorem dL_law_781 : decode cL_law 781 = .ok (.iconst 1, 1) := by decide +kernel
theorem dL_law_782 : decode cL_law 782 = .ok (.iadd, 1) := by decide +kernel
theorem dL_law_783 : decode cL_law 783 = .ok (.iaload, 1) := by decide +kernel
theorem dL_law_784 : decode cL_law 784 = .ok (.aload_n 0, 1) := by decide +kernel
theorem dL_law_785 : decode cL_law 785 = .ok (.iload 4, 2) := by decide +kernel
theorem dL_law_787 : decode cL_law 787 = .ok (.iconst 2, 1) := by decide +kernel
theorem dL_law_788 : decode cL_law 788 = .ok (.iadd, 1) := by decide +kernel
theorem dL_law_789 : decode cL_law 789 = .ok (.iaload, 1) := by decide +kernel
theorem dL_law_790 : decode cL_law 790 = .ok (.invokevirtual 134, 3) := by decide +kernel
theorem dL_law_793 : decode cL_law 793 = .ok (.lstore 6, 2) := by decide +kernel
theorem dL_law_795 : decode cL_law 795 = .ok (.aload_n 2, 1) := by decide +kernel
theorem dL_law_796 : decode cL_law 796 = .ok (.invokevirtual 92, 3) := by decide +kernel
theorem dL_law_799 : decode cL_law 799 = .ok (.iload 5, 2) := by decide +kernel
theorem dL_law_801 : decode cL_law 801 = .ok (.if_icmp .eq 5, 3) := by decide +kernel
theorem dL_law_804 : decode cL_law 804 = .ok (.iconst 0, 1) := by decide +kernel
theorem dL_law_805 : decode cL_law 805 = .ok (.ireturn, 1) := by decide +kernel
theorem dL_law_806 : decode cL_law 806 = .ok (.iload 5, 2) := by decide +kernel
theorem dL_law_808 : decode cL_law 808 = .ok (.ifCond .ne 14, 3) := by decide +kernel
theorem dL_law_811 : decode cL_law 811 = .ok (.aload_n 3, 1) := by decide +kernel
theorem dL_law_812 : decode cL_law 812 = .ok (.iconst 0, 1) := by decide +kernel
theorem dL_law_813 : decode cL_law 813 = .ok (.laload, 1) := by decide +kernel
theorem dL_law_814 : decode cL_law 814 = .ok (.lload 6, 2) := by decide +kernel
theorem dL_law_816 : decode cL_law 816 = .ok (.lcmp, 1) := by decide +kernel
theorem dL_law_817 : decode cL_law 817 = .ok (.ifCond .eq 5, 3) := by decide +kernel
theorem dL_law_820 : decode cL_law 820 = .ok (.iconst 0, 1) := by decide +kernel
theorem dL_law_821 : decode cL_law 821 = .ok (.ireturn, 1) := by decide +kernel
theorem dL_law_822 : decode cL_law 822 = .ok (.goto 593, 3) := by decide +kernel
theorem dL_law_825 : decode cL_law 825 = .ok (.aload_n 1, 1) := by decide +kernel
theorem dL_law_826 : decode cL_law 826 = .ok (.aload_n 0, 1) := by decide +kernel
theorem dL_law_827 : decode cL_law 827 = .ok (.iload 4, 2) := by decide +kernel
theorem dL_law_829 : decode cL_law 829 = .ok (.iconst 1, 1) := by decide +kernel
theorem dL_law_830 : decode cL_law 830 = .ok (.iadd, 1) := by decide +kernel
theorem dL_law_831 : decode cL_law 831 = .ok (.iaload, 1) := by decide +kernel
theorem dL_law_832 : decode cL_law 832 = .ok (.aload_n 0, 1) := by decide +kernel
theorem dL_law_833 : decode cL_law 833 = .ok (.iload 4, 2) := by decide +kernel
theorem dL_law_835 : decode cL_law 835 = .ok (.iconst 2, 1) := by decide +kernel
theorem dL_law_836 : decode cL_law 836 = .ok (.iadd, 1) := by decide +kernel
theorem dL_law_837 : decode cL_law 837 = .ok (.iaload, 1) := by decide +kernel
theorem dL_law_838 : decode cL_law 838 = .ok (.aload_n 3, 1) := by decide +kernel
theorem dL_law_839 : decode cL_law 839 = .ok (.invokestatic 135, 3) := by decide +kernel
theorem dL_law_842 : decode cL_law 842 = .ok (.istore 5, 2) := by decide +kernel
theorem dL_law_844 : decode cL_law 844 = .ok (.aload_n 2, 1) := by decide +kernel
theorem dL_law_845 : decode cL_law 845 = .ok (.aload_n 0, 1) := by decide +kernel
theorem dL_law_846 : decode cL_law 846 = .ok (.iload 4, 2) := by decide +kernel
theorem dL_law_848 : decode cL_law 848 = .ok (.iconst 1, 1) := by decide +kernel
theorem dL_law_849 : decode cL_law 849 = .ok (.iadd, 1) := by decide +kernel
theorem dL_law_850 : decode cL_law 850 = .ok (.iaload, 1) := by decide +kernel
theorem dL_law_851 : decode cL_law 851 = .ok (.aload_n 0, 1) := by decide +kernel
theorem dL_law_852 : decode cL_law 852 = .ok (.iload 4, 2) := by decide +kernel
theorem dL_law_854 : decode cL_law 854 = .ok (.iconst 2, 1) := by decide +kernel
theorem dL_law_855 : decode cL_law 855 = .ok (.iadd, 1) := by decide +kernel
theorem dL_law_856 : decode cL_law 856 = .ok (.iaload, 1) := by decide +kernel
theorem dL_law_857 : decode cL_law 857 = .ok (.invokevirtual 137, 3) := by decide +kernel
theorem dL_law_860 : decode cL_law 860 = .ok (.istore 6, 2) := by decide +kernel
theorem dL_law_862 : decode cL_law 862 = .ok (.aload_n 2, 1) := by decide +kernel
theorem dL_law_863 : decode cL_law 863 = .ok (.invokevirtual 92, 3) := by decide +kernel
theorem dL_law_866 : decode cL_law 866 = .ok (.iload 5, 2) := by decide +kernel
theorem dL_law_868 : decode cL_law 868 = .ok (.if_icmp .eq 5, 3) := by decide +kernel
theorem dL_law_871 : decode cL_law 871 = .ok (.iconst 0, 1) := by decide +kernel
theorem dL_law_872 : decode cL_law 872 = .ok (.ireturn, 1) := by decide +kernel
theorem dL_law_873 : decode cL_law 873 = .ok (.iload 5, 2) := by decide +kernel
theorem dL_law_875 : decode cL_law 875 = .ok (.ifCond .ne 15, 3) := by decide +kernel
theorem dL_law_878 : decode cL_law 878 = .ok (.aload_n 3, 1) := by decide +kernel
theorem dL_law_879 : decode cL_law 879 = .ok (.iconst 0, 1) := by decide +kernel
theorem dL_law_880 : decode cL_law 880 = .ok (.laload, 1) := by decide +kernel
theorem dL_law_881 : decode cL_law 881 = .ok (.iload 6, 2) := by decide +kernel
theorem dL_law_883 : decode cL_law 883 = .ok (.i2l, 1) := by decide +kernel
theorem dL_law_884 : decode cL_law 884 = .ok (.lcmp, 1) := by decide +kernel
theorem dL_law_885 : decode cL_law 885 = .ok (.ifCond .eq 5, 3) := by decide +kernel
theorem dL_law_888 : decode cL_law 888 = .ok (.iconst 0, 1) := by decide +kernel
theorem dL_law_889 : decode cL_law 889 = .ok (.ireturn, 1) := by decide +kernel
theorem dL_law_890 : decode cL_law 890 = .ok (.goto 525, 3) := by decide +kernel
theorem dL_law_893 : decode cL_law 893 = .ok (.aload_n 1, 1) := by decide +kernel
theorem dL_law_894 : decode cL_law 894 = .ok (.aload_n 0, 1) := by decide +kernel
theorem dL_law_895 : decode cL_law 895 = .ok (.iload 4, 2) := by decide +kernel
theorem dL_law_897 : decode cL_law 897 = .ok (.iconst 1, 1) := by decide +kernel
theorem dL_law_898 : decode cL_law 898 = .ok (.iadd, 1) := by decide +kernel
theorem dL_law_899 : decode cL_law 899 = .ok (.iaload, 1) := by decide +kernel
theorem dL_law_900 : decode cL_law 900 = .ok (.aload_n 3, 1) := by decide +kernel
theorem dL_law_901 : decode cL_law 901 = .ok (.invokestatic 138, 3) := by decide +kernel
theorem dL_law_904 : decode cL_law 904 = .ok (.istore 5, 2) := by decide +kernel
theorem dL_law_906 : decode cL_law 906 = .ok (.aload_n 2, 1) := by decide +kernel
theorem dL_law_907 : decode cL_law 907 = .ok (.aload_n 0, 1) := by decide +kernel
theorem dL_law_908 : decode cL_law 908 = .ok (.iload 4, 2) := by decide +kernel
theorem dL_law_910 : decode cL_law 910 = .ok (.iconst 1, 1) := by decide +kernel
theorem dL_law_911 : decode cL_law 911 = .ok (.iadd, 1) := by decide +kernel
theorem dL_law_912 : decode cL_law 912 = .ok (.iaload, 1) := by decide +kernel
theorem dL_law_913 : decode cL_law 913 = .ok (.invokevirtual 140, 3) := by decide +kernel
theorem dL_law_916 : decode cL_law 916 = .ok (.istore 6, 2) := by decide +kernel
theorem dL_law_918 : decode cL_law 918 = .ok (.aload_n 2, 1) := by decide +kernel
theorem dL_law_919 : decode cL_law 919 = .ok (.invokevirtual 92, 3) := by decide +kernel
theorem dL_law_922 : decode cL_law 922 = .ok (.iload 5, 2) := by decide +kernel
theorem dL_law_924 : decode cL_law 924 = .ok (.if_icmp .eq 5, 3) := by decide +kernel
theorem dL_law_927 : decode cL_law 927 = .ok (.iconst 0, 1) := by decide +kernel
theorem dL_law_928 : decode cL_law 928 = .ok (.ireturn, 1) := by decide +kernel
theorem dL_law_929 : decode cL_law 929 = .ok (.iload 5, 2) := by decide +kernel
theorem dL_law_931 : decode cL_law 931 = .ok (.ifCond .ne 15, 3) := by decide +kernel
theorem dL_law_934 : decode cL_law 934 = .ok (.aload_n 3, 1) := by decide +kernel
theorem dL_law_935 : decode cL_law 935 = .ok (.iconst 0, 1) := by decide +kernel
theorem dL_law_936 : decode cL_law 936 = .ok (.laload, 1) := by decide +kernel
theorem dL_law_937 : decode cL_law 937 = .ok (.iload 6, 2) := by decide +kernel
theorem dL_law_939 : decode cL_law 939 = .ok (.i2l, 1) := by decide +kernel
theorem dL_law_940 : decode cL_law 940 = .ok (.lcmp, 1) := by decide +kernel
theorem dL_law_941 : decode cL_law 941 = .ok (.ifCond .eq 5, 3) := by decide +kernel
theorem dL_law_944 : decode cL_law 944 = .ok (.iconst 0, 1) := by decide +kernel
theorem dL_law_945 : decode cL_law 945 = .ok (.ireturn, 1) := by decide +kernel
theorem dL_law_946 : decode cL_law 946 = .ok (.goto 469, 3) := by decide +kernel
theorem dL_law_949 : decode cL_law 949 = .ok (.aload_n 1, 1) := by decide +kernel
theorem dL_law_950 : decode cL_law 950 = .ok (.aload_n 0, 1) := by decide +kernel
theorem dL_law_951 : decode cL_law 951 = .ok (.iload 4, 2) := by decide +kernel
theorem dL_law_953 : decode cL_law 953 = .ok (.iconst 1, 1) := by decide +kernel
theorem dL_law_954 : decode cL_law 954 = .ok (.iadd, 1) := by decide +kernel
theorem dL_law_955 : decode cL_law 955 = .ok (.iaload, 1) := by decide +kernel
theorem dL_law_956 : decode cL_law 956 = .ok (.aload_n 3, 1) := by decide +kernel
theorem dL_law_957 : decode cL_law 957 = .ok (.invokestatic 141, 3) := by decide +kernel
theorem dL_law_960 : decode cL_law 960 = .ok (.istore 5, 2) := by decide +kernel
theorem dL_law_962 : decode cL_law 962 = .ok (.aload_n 2, 1) := by decide +kernel
theorem dL_law_963 : decode cL_law 963 = .ok (.aload_n 0, 1) := by decide +kernel
theorem dL_law_964 : decode cL_law 964 = .ok (.iload 4, 2) := by decide +kernel
theorem dL_law_966 : decode cL_law 966 = .ok (.iconst 1, 1) := by decide +kernel
theorem dL_law_967 : decode cL_law 967 = .ok (.iadd, 1) := by decide +kernel
theorem dL_law_968 : decode cL_law 968 = .ok (.iaload, 1) := by decide +kernel
theorem dL_law_969 : decode cL_law 969 = .ok (.invokevirtual 143, 3) := by decide +kernel
theorem dL_law_972 : decode cL_law 972 = .ok (.istore 6, 2) := by decide +kernel
theorem dL_law_974 : decode cL_law 974 = .ok (.aload_n 2, 1) := by decide +kernel
theorem dL_law_975 : decode cL_law 975 = .ok (.invokevirtual 92, 3) := by decide +kernel
theorem dL_law_978 : decode cL_law 978 = .ok (.iload 5, 2) := by decide +kernel
theorem dL_law_980 : decode cL_law 980 = .ok (.if_icmp .eq 5, 3) := by decide +kernel
theorem dL_law_983 : decode cL_law 983 = .ok (.iconst 0, 1) := by decide +kernel
theorem dL_law_984 : decode cL_law 984 = .ok (.ireturn, 1) := by decide +kernel
theorem dL_law_985 : decode cL_law 985 = .ok (.iload 5, 2) := by decide +kernel
theorem dL_law_987 : decode cL_law 987 = .ok (.ifCond .ne 15, 3) := by decide +kernel
theorem dL_law_990 : decode cL_law 990 = .ok (.aload_n 3, 1) := by decide +kernel
theorem dL_law_991 : decode cL_law 991 = .ok (.iconst 0, 1) := by decide +kernel
theorem dL_law_992 : decode cL_law 992 = .ok (.laload, 1) := by decide +kernel
theorem dL_law_993 : decode cL_law 993 = .ok (.iload 6, 2) := by decide +kernel
theorem dL_law_995 : decode cL_law 995 = .ok (.i2l, 1) := by decide +kernel
theorem dL_law_996 : decode cL_law 996 = .ok (.lcmp, 1) := by decide +kernel
theorem dL_law_997 : decode cL_law 997 = .ok (.ifCond .eq 5, 3) := by decide +kernel
theorem dL_law_1000 : decode cL_law 1000 = .ok (.iconst 0, 1) := by decide +kernel
theorem dL_law_1001 : decode cL_law 1001 = .ok (.ireturn, 1) := by decide +kernel
theorem dL_law_1002 : decode cL_law 1002 = .ok (.goto 413, 3) := by decide +kernel
theorem dL_law_1005 : decode cL_law 1005 = .ok (.aload_n 1, 1) := by decide +kernel
theorem dL_law_1006 : decode cL_law 1006 = .ok (.aload_n 0, 1) := by decide +kernel
theorem dL_law_1007 : decode cL_law 1007 = .ok (.iload 4, 2) := by decide +kernel
theorem dL_law_1009 : decode cL_law 1009 = .ok (.iconst 1, 1) := by decide +kernel
theorem dL_law_1010 : decode cL_law 1010 = .ok (.iadd, 1) := by decide +kernel
theorem dL_law_1011 : decode cL_law 1011 = .ok (.iaload, 1) := by decide +kernel
theorem dL_law_1012 : decode cL_law 1012 = .ok (.aload_n 0, 1) := by decide +kernel
theorem dL_law_1013 : decode cL_law 1013 = .ok (.iload 4, 2) := by decide +kernel
theorem dL_law_1015 : decode cL_law 1015 = .ok (.iconst 2, 1) := by decide +kernel
theorem dL_law_1016 : decode cL_law 1016 = .ok (.iadd, 1) := by decide +kernel
theorem dL_law_1017 : decode cL_law 1017 = .ok (.iaload, 1) := by decide +kernel
theorem dL_law_1018 : decode cL_law 1018 = .ok (.aload_n 0, 1) := by decide +kernel
theorem dL_law_1019 : decode cL_law 1019 = .ok (.iload 4, 2) := by decide +kernel
theorem dL_law_1021 : decode cL_law 1021 = .ok (.iconst 3, 1) := by decide +kernel
theorem dL_law_1022 : decode cL_law 1022 = .ok (.iadd, 1) := by decide +kernel
theorem dL_law_1023 : decode cL_law 1023 = .ok (.iaload, 1) := by decide +kernel
theorem dL_law_1024 : decode cL_law 1024 = .ok (.aload_n 3, 1) := by decide +kernel
theorem dL_law_1025 : decode cL_law 1025 = .ok (.invokestatic 144, 3) := by decide +kernel
theorem dL_law_1028 : decode cL_law 1028 = .ok (.istore 5, 2) := by decide +kernel
theorem dL_law_1030 : decode cL_law 1030 = .ok (.aload_n 2, 1) := by decide +kernel
theorem dL_law_1031 : decode cL_law 1031 = .ok (.aload_n 0, 1) := by decide +kernel
theorem dL_law_1032 : decode cL_law 1032 = .ok (.iload 4, 2) := by decide +kernel
theorem dL_law_1034 : decode cL_law 1034 = .ok (.iconst 1, 1) := by decide +kernel
theorem dL_law_1035 : decode cL_law 1035 = .ok (.iadd, 1) := by decide +kernel
theorem dL_law_1036 : decode cL_law 1036 = .ok (.iaload, 1) := by decide +kernel
theorem dL_law_1037 : decode cL_law 1037 = .ok (.aload_n 0, 1) := by decide +kernel
theorem dL_law_1038 : decode cL_law 1038 = .ok (.iload 4, 2) := by decide +kernel
theorem dL_law_1040 : decode cL_law 1040 = .ok (.iconst 2, 1) := by decide +kernel
theorem dL_law_1041 : decode cL_law 1041 = .ok (.iadd, 1) := by decide +kernel
theorem dL_law_1042 : decode cL_law 1042 = .ok (.iaload, 1) := by decide +kernel
theorem dL_law_1043 : decode cL_law 1043 = .ok (.aload_n 0, 1) := by decide +kernel
theorem dL_law_1044 : decode cL_law 1044 = .ok (.iload 4, 2) := by decide +kernel
theorem dL_law_1046 : decode cL_law 1046 = .ok (.iconst 3, 1) := by decide +kernel
theorem dL_law_1047 : decode cL_law 1047 = .ok (.iadd, 1) := by decide +kernel
theorem dL_law_1048 : decode cL_law 1048 = .ok (.iaload, 1) := by decide +kernel
theorem dL_law_1049 : decode cL_law 1049 = .ok (.invokevirtual 147, 3) := by decide +kernel
theorem dL_law_1052 : decode cL_law 1052 = .ok (.lstore 6, 2) := by decide +kernel
theorem dL_law_1054 : decode cL_law 1054 = .ok (.aload_n 2, 1) := by decide +kernel
theorem dL_law_1055 : decode cL_law 1055 = .ok (.invokevirtual 92, 3) := by decide +kernel
theorem dL_law_1058 : decode cL_law 1058 = .ok (.iload 5, 2) := by decide +kernel
theorem dL_law_1060 : decode cL_law 1060 = .ok (.if_icmp .eq 5, 3) := by decide +kernel
theorem dL_law_1063 : decode cL_law 1063 = .ok (.iconst 0, 1) := by decide +kernel
theorem dL_law_1064 : decode cL_law 1064 = .ok (.ireturn, 1) := by decide +kernel
theorem dL_law_1065 : decode cL_law 1065 = .ok (.iload 5, 2) := by decide +kernel
theorem dL_law_1067 : decode cL_law 1067 = .ok (.ifCond .ne 14, 3) := by decide +kernel
theorem dL_law_1070 : decode cL_law 1070 = .ok (.aload_n 3, 1) := by decide +kernel
theorem dL_law_1071 : decode cL_law 1071 = .ok (.iconst 0, 1) := by decide +kernel
theorem dL_law_1072 : decode cL_law 1072 = .ok (.laload, 1) := by decide +kernel
theorem dL_law_1073 : decode cL_law 1073 = .ok (.lload 6, 2) := by decide +kernel
theorem dL_law_1075 : decode cL_law 1075 = .ok (.lcmp, 1) := by decide +kernel
theorem dL_law_1076 : decode cL_law 1076 = .ok (.ifCond .eq 5, 3) := by decide +kernel
theorem dL_law_1079 : decode cL_law 1079 = .ok (.iconst 0, 1) := by decide +kernel
theorem dL_law_1080 : decode cL_law 1080 = .ok (.ireturn, 1) := by decide +kernel
theorem dL_law_1081 : decode cL_law 1081 = .ok (.goto 334, 3) := by decide +kernel
theorem dL_law_1084 : decode cL_law 1084 = .ok (.aload_n 1, 1) := by decide +kernel
theorem dL_law_1085 : decode cL_law 1085 = .ok (.aload_n 0, 1) := by decide +kernel
theorem dL_law_1086 : decode cL_law 1086 = .ok (.iload 4, 2) := by decide +kernel
theorem dL_law_1088 : decode cL_law 1088 = .ok (.iconst 1, 1) := by decide +kernel
theorem dL_law_1089 : decode cL_law 1089 = .ok (.iadd, 1) := by decide +kernel
theorem dL_law_1090 : decode cL_law 1090 = .ok (.iaload, 1) := by decide +kernel
theorem dL_law_1091 : decode cL_law 1091 = .ok (.aload_n 0, 1) := by decide +kernel
theorem dL_law_1092 : decode cL_law 1092 = .ok (.iload 4, 2) := by decide +kernel
theorem dL_law_1094 : decode cL_law 1094 = .ok (.iconst 2, 1) := by decide +kernel
theorem dL_law_1095 : decode cL_law 1095 = .ok (.iadd, 1) := by decide +kernel
theorem dL_law_1096 : decode cL_law 1096 = .ok (.iaload, 1) := by decide +kernel
theorem dL_law_1097 : decode cL_law 1097 = .ok (.ifCond .eq 7, 3) := by decide +kernel
theorem dL_law_1100 : decode cL_law 1100 = .ok (.iconst 1, 1) := by decide +kernel
theorem dL_law_1101 : decode cL_law 1101 = .ok (.goto 4, 3) := by decide +kernel
theorem dL_law_1104 : decode cL_law 1104 = .ok (.iconst 0, 1) := by decide +kernel
theorem dL_law_1105 : decode cL_law 1105 = .ok (.aload_n 3, 1) := by decide +kernel
theorem dL_law_1106 : decode cL_law 1106 = .ok (.invokestatic 148, 3) := by decide +kernel
theorem dL_law_1109 : decode cL_law 1109 = .ok (.istore 5, 2) := by decide +kernel
theorem dL_law_1111 : decode cL_law 1111 = .ok (.aload_n 2, 1) := by decide +kernel
theorem dL_law_1112 : decode cL_law 1112 = .ok (.aload_n 0, 1) := by decide +kernel
theorem dL_law_1113 : decode cL_law 1113 = .ok (.iload 4, 2) := by decide +kernel
theorem dL_law_1115 : decode cL_law 1115 = .ok (.iconst 1, 1) := by decide +kernel
theorem dL_law_1116 : decode cL_law 1116 = .ok (.iadd, 1) := by decide +kernel
theorem dL_law_1117 : decode cL_law 1117 = .ok (.iaload, 1) := by decide +kernel
theorem dL_law_1118 : decode cL_law 1118 = .ok (.aload_n 0, 1) := by decide +kernel
theorem dL_law_1119 : decode cL_law 1119 = .ok (.iload 4, 2) := by decide +kernel
theorem dL_law_1121 : decode cL_law 1121 = .ok (.iconst 2, 1) := by decide +kernel
theorem dL_law_1122 : decode cL_law 1122 = .ok (.iadd, 1) := by decide +kernel
theorem dL_law_1123 : decode cL_law 1123 = .ok (.iaload, 1) := by decide +kernel
theorem dL_law_1124 : decode cL_law 1124 = .ok (.ifCond .eq 7, 3) := by decide +kernel
theorem dL_law_1127 : decode cL_law 1127 = .ok (.iconst 1, 1) := by decide +kernel
theorem dL_law_1128 : decode cL_law 1128 = .ok (.goto 4, 3) := by decide +kernel
theorem dL_law_1131 : decode cL_law 1131 = .ok (.iconst 0, 1) := by decide +kernel
theorem dL_law_1132 : decode cL_law 1132 = .ok (.invokevirtual 151, 3) := by decide +kernel
theorem dL_law_1135 : decode cL_law 1135 = .ok (.istore 6, 2) := by decide +kernel
theorem dL_law_1137 : decode cL_law 1137 = .ok (.aload_n 2, 1) := by decide +kernel
theorem dL_law_1138 : decode cL_law 1138 = .ok (.invokevirtual 92, 3) := by decide +kernel
theorem dL_law_1141 : decode cL_law 1141 = .ok (.iload 5, 2) := by decide +kernel
theorem dL_law_1143 : decode cL_law 1143 = .ok (.if_icmp .eq 5, 3) := by decide +kernel
theorem dL_law_1146 : decode cL_law 1146 = .ok (.iconst 0, 1) := by decide +kernel
theorem dL_law_1147 : decode cL_law 1147 = .ok (.ireturn, 1) := by decide +kernel
theorem dL_law_1148 : decode cL_law 1148 = .ok (.iload 5, 2) := by decide +kernel
theorem dL_law_1150 : decode cL_law 1150 = .ok (.ifCond .ne 15, 3) := by decide +kernel
theorem dL_law_1153 : decode cL_law 1153 = .ok (.aload_n 3, 1) := by decide +kernel
theorem dL_law_1154 : decode cL_law 1154 = .ok (.iconst 0, 1) := by decide +kernel
theorem dL_law_1155 : decode cL_law 1155 = .ok (.laload, 1) := by decide +kernel
theorem dL_law_1156 : decode cL_law 1156 = .ok (.iload 6, 2) := by decide +kernel
theorem dL_law_1158 : decode cL_law 1158 = .ok (.i2l, 1) := by decide +kernel
theorem dL_law_1159 : decode cL_law 1159 = .ok (.lcmp, 1) := by decide +kernel
theorem dL_law_1160 : decode cL_law 1160 = .ok (.ifCond .eq 5, 3) := by decide +kernel
theorem dL_law_1163 : decode cL_law 1163 = .ok (.iconst 0, 1) := by decide +kernel
theorem dL_law_1164 : decode cL_law 1164 = .ok (.ireturn, 1) := by decide +kernel
theorem dL_law_1165 : decode cL_law 1165 = .ok (.goto 250, 3) := by decide +kernel
theorem dL_law_1168 : decode cL_law 1168 = .ok (.aload_n 1, 1) := by decide +kernel
theorem dL_law_1169 : decode cL_law 1169 = .ok (.aload_n 0, 1) := by decide +kernel
theorem dL_law_1170 : decode cL_law 1170 = .ok (.iload 4, 2) := by decide +kernel
theorem dL_law_1172 : decode cL_law 1172 = .ok (.iconst 1, 1) := by decide +kernel
theorem dL_law_1173 : decode cL_law 1173 = .ok (.iadd, 1) := by decide +kernel
theorem dL_law_1174 : decode cL_law 1174 = .ok (.iaload, 1) := by decide +kernel
theorem dL_law_1175 : decode cL_law 1175 = .ok (.aload_n 0, 1) := by decide +kernel
theorem dL_law_1176 : decode cL_law 1176 = .ok (.iload 4, 2) := by decide +kernel
theorem dL_law_1178 : decode cL_law 1178 = .ok (.iconst 2, 1) := by decide +kernel
theorem dL_law_1179 : decode cL_law 1179 = .ok (.iadd, 1) := by decide +kernel
theorem dL_law_1180 : decode cL_law 1180 = .ok (.iaload, 1) := by decide +kernel
theorem dL_law_1181 : decode cL_law 1181 = .ok (.aload_n 3, 1) := by decide +kernel
theorem dL_law_1182 : decode cL_law 1182 = .ok (.invokestatic 152, 3) := by decide +kernel
theorem dL_law_1185 : decode cL_law 1185 = .ok (.istore 5, 2) := by decide +kernel
theorem dL_law_1187 : decode cL_law 1187 = .ok (.aload_n 2, 1) := by decide +kernel
theorem dL_law_1188 : decode cL_law 1188 = .ok (.aload_n 0, 1) := by decide +kernel
theorem dL_law_1189 : decode cL_law 1189 = .ok (.iload 4, 2) := by decide +kernel
theorem dL_law_1191 : decode cL_law 1191 = .ok (.iconst 1, 1) := by decide +kernel
theorem dL_law_1192 : decode cL_law 1192 = .ok (.iadd, 1) := by decide +kernel
theorem dL_law_1193 : decode cL_law 1193 = .ok (.iaload, 1) := by decide +kernel
theorem dL_law_1194 : decode cL_law 1194 = .ok (.aload_n 0, 1) := by decide +kernel
theorem dL_law_1195 : decode cL_law 1195 = .ok (.iload 4, 2) := by decide +kernel
theorem dL_law_1197 : decode cL_law 1197 = .ok (.iconst 2, 1) := by decide +kernel
theorem dL_law_1198 : decode cL_law 1198 = .ok (.iadd, 1) := by decide +kernel
theorem dL_law_1199 : decode cL_law 1199 = .ok (.iaload, 1) := by decide +kernel
theorem dL_law_1200 : decode cL_law 1200 = .ok (.invokevirtual 154, 3) := by decide +kernel
theorem dL_law_1203 : decode cL_law 1203 = .ok (.istore 6, 2) := by decide +kernel
theorem dL_law_1205 : decode cL_law 1205 = .ok (.aload_n 2, 1) := by decide +kernel
theorem dL_law_1206 : decode cL_law 1206 = .ok (.invokevirtual 92, 3) := by decide +kernel
theorem dL_law_1209 : decode cL_law 1209 = .ok (.iload 5, 2) := by decide +kernel
theorem dL_law_1211 : decode cL_law 1211 = .ok (.if_icmp .eq 5, 3) := by decide +kernel
theorem dL_law_1214 : decode cL_law 1214 = .ok (.iconst 0, 1) := by decide +kernel
theorem dL_law_1215 : decode cL_law 1215 = .ok (.ireturn, 1) := by decide +kernel
theorem dL_law_1216 : decode cL_law 1216 = .ok (.iload 5, 2) := by decide +kernel
theorem dL_law_1218 : decode cL_law 1218 = .ok (.ifCond .ne 15, 3) := by decide +kernel
theorem dL_law_1221 : decode cL_law 1221 = .ok (.aload_n 3, 1) := by decide +kernel
theorem dL_law_1222 : decode cL_law 1222 = .ok (.iconst 0, 1) := by decide +kernel
theorem dL_law_1223 : decode cL_law 1223 = .ok (.laload, 1) := by decide +kernel
theorem dL_law_1224 : decode cL_law 1224 = .ok (.iload 6, 2) := by decide +kernel
theorem dL_law_1226 : decode cL_law 1226 = .ok (.i2l, 1) := by decide +kernel
theorem dL_law_1227 : decode cL_law 1227 = .ok (.lcmp, 1) := by decide +kernel
theorem dL_law_1228 : decode cL_law 1228 = .ok (.ifCond .eq 5, 3) := by decide +kernel
theorem dL_law_1231 : decode cL_law 1231 = .ok (.iconst 0, 1) := by decide +kernel
theorem dL_law_1232 : decode cL_law 1232 = .ok (.ireturn, 1) := by decide +kernel
theorem dL_law_1233 : decode cL_law 1233 = .ok (.goto 182, 3) := by decide +kernel
theorem dL_law_1236 : decode cL_law 1236 = .ok (.aload_n 1, 1) := by decide +kernel
theorem dL_law_1237 : decode cL_law 1237 = .ok (.aload_n 0, 1) := by decide +kernel
theorem dL_law_1238 : decode cL_law 1238 = .ok (.iload 4, 2) := by decide +kernel
theorem dL_law_1240 : decode cL_law 1240 = .ok (.iconst 1, 1) := by decide +kernel
theorem dL_law_1241 : decode cL_law 1241 = .ok (.iadd, 1) := by decide +kernel
theorem dL_law_1242 : decode cL_law 1242 = .ok (.iaload, 1) := by decide +kernel
theorem dL_law_1243 : decode cL_law 1243 = .ok (.aload_n 0, 1) := by decide +kernel
theorem dL_law_1244 : decode cL_law 1244 = .ok (.iload 4, 2) := by decide +kernel
theorem dL_law_1246 : decode cL_law 1246 = .ok (.iconst 2, 1) := by decide +kernel
theorem dL_law_1247 : decode cL_law 1247 = .ok (.iadd, 1) := by decide +kernel
theorem dL_law_1248 : decode cL_law 1248 = .ok (.iaload, 1) := by decide +kernel
theorem dL_law_1249 : decode cL_law 1249 = .ok (.aload_n 3, 1) := by decide +kernel
theorem dL_law_1250 : decode cL_law 1250 = .ok (.invokestatic 155, 3) := by decide +kernel
theorem dL_law_1253 : decode cL_law 1253 = .ok (.istore 5, 2) := by decide +kernel
theorem dL_law_1255 : decode cL_law 1255 = .ok (.aload_n 2, 1) := by decide +kernel
theorem dL_law_1256 : decode cL_law 1256 = .ok (.aload_n 0, 1) := by decide +kernel
theorem dL_law_1257 : decode cL_law 1257 = .ok (.iload 4, 2) := by decide +kernel
theorem dL_law_1259 : decode cL_law 1259 = .ok (.iconst 1, 1) := by decide +kernel
theorem dL_law_1260 : decode cL_law 1260 = .ok (.iadd, 1) := by decide +kernel
theorem dL_law_1261 : decode cL_law 1261 = .ok (.iaload, 1) := by decide +kernel
theorem dL_law_1262 : decode cL_law 1262 = .ok (.aload_n 0, 1) := by decide +kernel
theorem dL_law_1263 : decode cL_law 1263 = .ok (.iload 4, 2) := by decide +kernel
theorem dL_law_1265 : decode cL_law 1265 = .ok (.iconst 2, 1) := by decide +kernel
theorem dL_law_1266 : decode cL_law 1266 = .ok (.iadd, 1) := by decide +kernel
theorem dL_law_1267 : decode cL_law 1267 = .ok (.iaload, 1) := by decide +kernel
theorem dL_law_1268 : decode cL_law 1268 = .ok (.invokevirtual 157, 3) := by decide +kernel
theorem dL_law_1271 : decode cL_law 1271 = .ok (.istore 6, 2) := by decide +kernel
theorem dL_law_1273 : decode cL_law 1273 = .ok (.aload_n 2, 1) := by decide +kernel
theorem dL_law_1274 : decode cL_law 1274 = .ok (.invokevirtual 92, 3) := by decide +kernel
theorem dL_law_1277 : decode cL_law 1277 = .ok (.iload 5, 2) := by decide +kernel
theorem dL_law_1279 : decode cL_law 1279 = .ok (.if_icmp .eq 5, 3) := by decide +kernel
theorem dL_law_1282 : decode cL_law 1282 = .ok (.iconst 0, 1) := by decide +kernel
theorem dL_law_1283 : decode cL_law 1283 = .ok (.ireturn, 1) := by decide +kernel
theorem dL_law_1284 : decode cL_law 1284 = .ok (.iload 5, 2) := by decide +kernel
theorem dL_law_1286 : decode cL_law 1286 = .ok (.ifCond .ne 15, 3) := by decide +kernel
theorem dL_law_1289 : decode cL_law 1289 = .ok (.aload_n 3, 1) := by decide +kernel
theorem dL_law_1290 : decode cL_law 1290 = .ok (.iconst 0, 1) := by decide +kernel
theorem dL_law_1291 : decode cL_law 1291 = .ok (.laload, 1) := by decide +kernel
theorem dL_law_1292 : decode cL_law 1292 = .ok (.iload 6, 2) := by decide +kernel
theorem dL_law_1294 : decode cL_law 1294 = .ok (.i2l, 1) := by decide +kernel
theorem dL_law_1295 : decode cL_law 1295 = .ok (.lcmp, 1) := by decide +kernel
theorem dL_law_1296 : decode cL_law 1296 = .ok (.ifCond .eq 5, 3) := by decide +kernel
theorem dL_law_1299 : decode cL_law 1299 = .ok (.iconst 0, 1) := by decide +kernel
theorem dL_law_1300 : decode cL_law 1300 = .ok (.ireturn, 1) := by decide +kernel
theorem dL_law_1301 : decode cL_law 1301 = .ok (.goto 114, 3) := by decide +kernel
theorem dL_law_1304 : decode cL_law 1304 = .ok (.aload_n 1, 1) := by decide +kernel
theorem dL_law_1305 : decode cL_law 1305 = .ok (.aload_n 0, 1) := by decide +kernel
theorem dL_law_1306 : decode cL_law 1306 = .ok (.iload 4, 2) := by decide +kernel
theorem dL_law_1308 : decode cL_law 1308 = .ok (.iconst 1, 1) := by decide +kernel
theorem dL_law_1309 : decode cL_law 1309 = .ok (.iadd, 1) := by decide +kernel
theorem dL_law_1310 : decode cL_law 1310 = .ok (.iaload, 1) := by decide +kernel
theorem dL_law_1311 : decode cL_law 1311 = .ok (.aload_n 3, 1) := by decide +kernel
theorem dL_law_1312 : decode cL_law 1312 = .ok (.invokestatic 158, 3) := by decide +kernel
theorem dL_law_1315 : decode cL_law 1315 = .ok (.istore 5, 2) := by decide +kernel
theorem dL_law_1317 : decode cL_law 1317 = .ok (.aload_n 2, 1) := by decide +kernel
theorem dL_law_1318 : decode cL_law 1318 = .ok (.aload_n 0, 1) := by decide +kernel
theorem dL_law_1319 : decode cL_law 1319 = .ok (.iload 4, 2) := by decide +kernel
theorem dL_law_1321 : decode cL_law 1321 = .ok (.iconst 1, 1) := by decide +kernel
theorem dL_law_1322 : decode cL_law 1322 = .ok (.iadd, 1) := by decide +kernel
theorem dL_law_1323 : decode cL_law 1323 = .ok (.iaload, 1) := by decide +kernel
theorem dL_law_1324 : decode cL_law 1324 = .ok (.invokevirtual 160, 3) := by decide +kernel
theorem dL_law_1327 : decode cL_law 1327 = .ok (.istore 6, 2) := by decide +kernel
theorem dL_law_1329 : decode cL_law 1329 = .ok (.aload_n 2, 1) := by decide +kernel
theorem dL_law_1330 : decode cL_law 1330 = .ok (.invokevirtual 92, 3) := by decide +kernel
theorem dL_law_1333 : decode cL_law 1333 = .ok (.iload 5, 2) := by decide +kernel
theorem dL_law_1335 : decode cL_law 1335 = .ok (.if_icmp .eq 5, 3) := by decide +kernel
theorem dL_law_1338 : decode cL_law 1338 = .ok (.iconst 0, 1) := by decide +kernel
theorem dL_law_1339 : decode cL_law 1339 = .ok (.ireturn, 1) := by decide +kernel
theorem dL_law_1340 : decode cL_law 1340 = .ok (.iload 5, 2) := by decide +kernel
theorem dL_law_1342 : decode cL_law 1342 = .ok (.ifCond .ne 15, 3) := by decide +kernel
theorem dL_law_1345 : decode cL_law 1345 = .ok (.aload_n 3, 1) := by decide +kernel
theorem dL_law_1346 : decode cL_law 1346 = .ok (.iconst 0, 1) := by decide +kernel
theorem dL_law_1347 : decode cL_law 1347 = .ok (.laload, 1) := by decide +kernel
theorem dL_law_1348 : decode cL_law 1348 = .ok (.iload 6, 2) := by decide +kernel
theorem dL_law_1350 : decode cL_law 1350 = .ok (.i2l, 1) := by decide +kernel
theorem dL_law_1351 : decode cL_law 1351 = .ok (.lcmp, 1) := by decide +kernel
theorem dL_law_1352 : decode cL_law 1352 = .ok (.ifCond .eq 5, 3) := by decide +kernel
theorem dL_law_1355 : decode cL_law 1355 = .ok (.iconst 0, 1) := by decide +kernel
theorem dL_law_1356 : decode cL_law 1356 = .ok (.ireturn, 1) := by decide +kernel
theorem dL_law_1357 : decode cL_law 1357 = .ok (.goto 58, 3) := by decide +kernel
theorem dL_law_1360 : decode cL_law 1360 = .ok (.aload_n 1, 1) := by decide +kernel
theorem dL_law_1361 : decode cL_law 1361 = .ok (.invokevirtual 161, 3) := by decide +kernel
theorem dL_law_1364 : decode cL_law 1364 = .ok (.dstore 5, 2) := by decide +kernel
theorem dL_law_1366 : decode cL_law 1366 = .ok (.aload_n 2, 1) := by decide +kernel
theorem dL_law_1367 : decode cL_law 1367 = .ok (.invokevirtual 165, 3) := by decide +kernel
theorem dL_law_1370 : decode cL_law 1370 = .ok (.dstore 7, 2) := by decide +kernel
theorem dL_law_1372 : decode cL_law 1372 = .ok (.dload 5, 2) := by decide +kernel
theorem dL_law_1374 : decode cL_law 1374 = .ok (.dload 7, 2) := by decide +kernel
theorem dL_law_1376 : decode cL_law 1376 = .ok (.dcmp .l, 1) := by decide +kernel
theorem dL_law_1377 : decode cL_law 1377 = .ok (.ifCond .eq 21, 3) := by decide +kernel
theorem dL_law_1380 : decode cL_law 1380 = .ok (.dload 5, 2) := by decide +kernel
theorem dL_law_1382 : decode cL_law 1382 = .ok (.dload 5, 2) := by decide +kernel
theorem dL_law_1384 : decode cL_law 1384 = .ok (.dcmp .l, 1) := by decide +kernel
theorem dL_law_1385 : decode cL_law 1385 = .ok (.ifCond .eq 11, 3) := by decide +kernel
theorem dL_law_1388 : decode cL_law 1388 = .ok (.dload 7, 2) := by decide +kernel
theorem dL_law_1390 : decode cL_law 1390 = .ok (.dload 7, 2) := by decide +kernel
theorem dL_law_1392 : decode cL_law 1392 = .ok (.dcmp .l, 1) := by decide +kernel
theorem dL_law_1393 : decode cL_law 1393 = .ok (.ifCond .ne 5, 3) := by decide +kernel
theorem dL_law_1396 : decode cL_law 1396 = .ok (.iconst 0, 1) := by decide +kernel
theorem dL_law_1397 : decode cL_law 1397 = .ok (.ireturn, 1) := by decide +kernel
theorem dL_law_1398 : decode cL_law 1398 = .ok (.goto 17, 3) := by decide +kernel
theorem dL_law_1401 : decode cL_law 1401 = .ok (.aload_n 1, 1) := by decide +kernel
theorem dL_law_1402 : decode cL_law 1402 = .ok (.invokevirtual 166, 3) := by decide +kernel
theorem dL_law_1405 : decode cL_law 1405 = .ok (.aload_n 2, 1) := by decide +kernel
theorem dL_law_1406 : decode cL_law 1406 = .ok (.invokevirtual 170, 3) := by decide +kernel
theorem dL_law_1409 : decode cL_law 1409 = .ok (.lcmp, 1) := by decide +kernel
theorem dL_law_1410 : decode cL_law 1410 = .ok (.ifCond .eq 5, 3) := by decide +kernel
theorem dL_law_1413 : decode cL_law 1413 = .ok (.iconst 0, 1) := by decide +kernel
theorem dL_law_1414 : decode cL_law 1414 = .ok (.ireturn, 1) := by decide +kernel
theorem dL_law_1415 : decode cL_law 1415 = .ok (.iinc 4 4, 3) := by decide +kernel
theorem dL_law_1418 : decode cL_law 1418 = .ok (.goto (-1395), 3) := by decide +kernel
theorem dL_law_1421 : decode cL_law 1421 = .ok (.iconst 1, 1) := by decide +kernel
theorem dL_law_1422 : decode cL_law 1422 = .ok (.ireturn, 1) := by decide +kernel
end
section
/-! part 04: an abstract machine over the kit's rows: references are places 0, 1, 2 .. of a row of cells h, A says which address each place has; Ok X .. : from here the method comes to an end that its K allows -/
abbrev AE : Type := (Nat × List Value) ⊕ (Nat × Nat × ((Nat → Int32) ⊕ (Nat → Int64) ⊕ (Nat → Option Nat)))
abbrev HP : Type := Nat → AE
abbrev RS : Type := Option Value ⊕ String
abbrev KT : Type := RS → Nat → HP → Prop
def SA : Nat := 999999
def lw_all : List Cond := lw_tbl.filter goodWord
theorem in_all {w : Cond} {i : Nat} (h : lw_tbl[i]? = some w) (g : goodWord w = true) : w ∈ lw_all := List.mem_filter.mpr ⟨List.mem_of_getElem? h, g⟩
theorem all_tbl {w : Cond} (h : w ∈ lw_all) : w ∈ lw_tbl := (List.mem_filter.mp h).1
theorem all_good : ∀ w, w ∈ lw_all → goodWord w = true := fun _ h => (List.mem_filter.mp h).2
theorem good_all : GoodIn lw_all lw_all := fun w h => ⟨h, good_of_word (all_good w h)⟩
theorem good_sub {ws : List Cond} (h : ∀ w ∈ ws, w ∈ lw_all) : GoodIn lw_all ws := fun w hw => good_all w (h w hw)
def trV (A : Nat → Nat) (v : Value) : Value := match v with
  | .ref i => .ref (A i)
  | w => w
theorem trV_cat (A : Nat → Nat) (v : Value) : (trV A v).category = v.category := by cases v <;> rfl
def tyN (t : Nat) : FieldType := match t with
  | 0 => .int
  | 1 => .long
  | 2 => .char
  | 3 => .object "AmplifierDesk$State"
  | _ => .array .long
def tyE (e : AE) : Option FieldType := match e with
  | .inl _ => none
  | .inr q => some (tyN q.1)
def trE (A : Nat → Nat) (c : ClassId) (e : AE) : va_E := match e with
  | .inl q => .inr (q.1, q.2.map (trV A))
  | .inr (_, n, .inl f) => .inl (c, n, .inl f)
  | .inr (_, n, .inr (.inl f)) => .inl (c, n, .inr (.inl f))
  | .inr (_, n, .inr (.inr f)) => .inl (c, n, .inr (.inr (.inr (.inr (fun j => (f j).map A)))))
def lst (A : Nat → Nat) (cy : Nat → ClassId) (n : Nat) (h : HP) : va_W := (List.range n).map fun i => (A i, trE A (cy i) (h i))
theorem lst_get {A : Nat → Nat} {cy : Nat → ClassId} {n i : Nat} {h : HP} (hi : i < n) : (lst A cy n h)[i]? = some (A i, trE A (cy i) (h i)) := by simp [lst, hi]
theorem lst_got {A : Nat → Nat} {cy : Nat → ClassId} {n i : Nat} {h : HP} {q : Nat × va_E} (hq : (lst A cy n h)[i]? = some q) : i < n ∧ q = (A i, trE A (cy i) (h i)) := by
  by_cases hi : i < n
  · rw [lst_get hi] at hq
    exact ⟨hi, (Option.some.inj hq).symm⟩
  · simp [lst, hi] at hq
theorem lst_set {A : Nat → Nat} {cy : Nat → ClassId} {n i : Nat} {h : HP} {e : AE} : (lst A cy n h).set i (A i, trE A (cy i) e) = lst A cy n (va_up h i e) := by
  apply List.ext_getElem?
  intro j
  rw [List.getElem?_set]
  by_cases hij : i = j
  · subst hij
    by_cases hi : i < n <;> simp [lst, va_up, hi]
  · have hji : ¬ j = i := fun q => hij q.symm
    by_cases hj : j < n <;> simp [lst, va_up, hij, hji, hj]
theorem up_self {α : Type} {f : Nat → α} {k : Nat} {v : α} : va_up f k v k = v := if_pos rfl
theorem up_ne {α : Type} {f : Nat → α} {k j : Nat} {v : α} (h : j ≠ k) : va_up f k v j = f j := if_neg h
def Wd (D : va_G) (A : Nat → Nat) (cy : Nat → ClassId) (bs n : Nat) (h : HP) (U : State) (H : Heap) : Prop :=
  va_P D vwCl (lst A cy n h) H ∧ va_K D vwCl [] U ∧ (∀ i, i < n → ∀ ty, tyE (h i) = some ty → ArrOfT U (cy i) ty ∧ va_RA U (cy i) ty) ∧ (∀ i j, i < n → j < n → A i = A j → i = j) ∧ ∀ i, i < n → bs ≤ A i
theorem Wd.K1 {D : va_G} {A : Nat → Nat} {cy : Nat → ClassId} {bs n : Nat} {h : HP} {U : State} {H : Heap} (w : Wd D A cy bs n h U H) {i : Nat} (hi : i < n) {ty : FieldType} (ht : tyE (h i) = some ty) : va_K D vwCl [(cy i, ty)] U := by
  refine ⟨w.2.1.1, fun k q hq => ?_⟩
  have hm : q = (cy i, ty) := by
    have := List.mem_of_getElem? hq
    simpa using this
  subst hm
  exact w.2.2.1 i hi ty ht
theorem Wd.D {D : va_G} {A : Nat → Nat} {cy : Nat → ClassId} {bs n : Nat} {h : HP} {U : State} {H : Heap} (w : Wd D A cy bs n h U H) : va_D (fun q => bs ≤ q) (lst A cy n h) := by
  refine ⟨fun i j p q hp hq hpq => ?_, fun k q hq => ?_⟩
  · obtain ⟨hi, rfl⟩ := lst_got hp
    obtain ⟨hj, rfl⟩ := lst_got hq
    exact w.2.2.2.1 i j hi hj hpq
  · obtain ⟨hk, rfl⟩ := lst_got hq
    exact w.2.2.2.2 k hk
/-- the world with another thing of the same kind in a place -/
theorem Wd.put {D : va_G} {A : Nat → Nat} {cy : Nat → ClassId} {bs n : Nat} {h : HP} {U : State} {H H1 : Heap} (w : Wd D A cy bs n h U H) {i : Nat} {e : AE} (ht : tyE e = tyE (h i)) (hP : va_P D vwCl ((lst A cy n h).set i (A i, trE A (cy i) e)) H1) : Wd D A cy bs n (va_up h i e) U H1 := by
  rw [lst_set] at hP
  refine ⟨hP, w.2.1, fun j hj ty hty => ?_, w.2.2.2.1, w.2.2.2.2⟩
  by_cases q : j = i
  · subst q
    rw [up_self, ht] at hty
    exact w.2.2.1 j hj ty hty
  · rw [up_ne q] at hty
    exact w.2.2.1 j hj ty hty
theorem Wd.moved {D : va_G} {A : Nat → Nat} {cy : Nat → ClassId} {bs n : Nat} {h : HP} {u U : State} {H : Heap} (hv : u.vm.Alike U.vm) (w : Wd D A cy bs n h u H) : Wd D A cy bs n h U H :=
  ⟨w.1, va_K.moved hv w.2.1, fun i hi ty hty => ⟨arrOfT_moved hv (w.2.2.1 i hi ty hty).1, (w.2.2.1 i hi ty hty).2.moved hv⟩, w.2.2.2.1, w.2.2.2.2⟩
abbrev c_P3 : Nat → Value := fun j => .int ([1, 3, 9, 27].getD j 0)
def nestw : List (String × Nat × MethodName × String) := [(RX2, 51, yX6_contains, RX6), (RX3, 56, yX6_contains, RX6), (RX0, 81, yX6_stateIn, RX6), (RX0, 116, yX6_contains, RX6), (RX0, 133, yX6_lowestTerms, RX6)]
def castw : List String := ["java/lang/IllegalArgumentException", "java/lang/IllegalStateException", "java/lang/IndexOutOfBoundsException"]
def declw : List MethodName := [⟨"java/lang/RuntimeException", "<init>", "(Ljava/lang/String;)V"⟩, ⟨"java/lang/Exception", "<init>", "(Ljava/lang/String;)V"⟩, ⟨"java/lang/Throwable", "<init>", "(Ljava/lang/String;)V"⟩]
def strw : List (Nat × String) := [(77, "the buffer is not a complete text of parts that can be"), (88, "there is no room for these parts"), (106, "the rail is 10 to 200"), (125, "the target is -200 to 200"), (137, "the history is empty"), (159, "the image keeps nothing"), (161, "the code is 32 to 126"), (163, "the buffer is full"), (190, "the part is no resistor"), (218, "there is no such amplifier"), (231, "what is 0 to 2"), (245, "what is 0 to 3"), (256, "what is 0 to 9"), (312, "there is no such part"), (314, "the part is no source"), (316, "an amplifier has no value"), (318, "the value is out of range"), (320, "there is no such image"), (322, "there is no such case"), (324, "there is no such node"), (326, "what is 0 or 1")]
/-- what lies outside of the world and never changes: the one static table, two of the JDK's statics, some words of the tables, the written texts -/
def Fx (A : Nat → Nat) (bs : Nat) (U : State) (H : Heap) : Prop :=
  va_Z "AmplifierDesk" "POWERS_OF_THREE" "[I" (.ref (A SA)) (fun q => bs ≤ q) U H ∧ va_T .int (A SA) 4 c_P3 (fun q => bs ≤ q) U H ∧ vx_Zq Bundle.tN "UNASSIGNED_STACK" Bundle.steD (fun q => bs ≤ q) U H ∧ vx_Zq Bundle.tN "SUPPRESSED_SENTINEL" Bundle.listD (fun q => bs ≤ q) U H ∧
    (∀ q ∈ nestw, va_Nw (.methodLinkNest q.1 q.2.1 q.2.2.1 q.2.2.2) U) ∧ (∀ E ∈ castw, va_Nw (.castable E E) U) ∧ (∀ q ∈ strw, ∃ a, vk_R RX6 q.1 q.2 a U) ∧ ∀ y ∈ declw, va_Nw (.declares y) U
theorem Fx.moved {A : Nat → Nat} {bs : Nat} {u U : State} {H : Heap} (hW : u.WarmedH U.vm) (w : Fx A bs u H) : Fx A bs U H :=
  ⟨va_Z.moved hW.alike w.1, va_T.moved hW.alike w.2.1, vx_Zq.moved hW.alike w.2.2.1, vx_Zq.moved hW.alike w.2.2.2.1, fun q hq => va_Nw.warmM hW (w.2.2.2.2.1 q hq), fun E hE => va_Nw.warmC hW (w.2.2.2.2.2.1 E hE), fun q hq => (w.2.2.2.2.2.2.1 q hq).elim fun a ha => ⟨a, ha.warm hW⟩, fun y hy => va_Nw.warmD hW (w.2.2.2.2.2.2.2 y hy)⟩
theorem Fx.kept {A : Nat → Nat} {bs : Nat} {U : State} {H H1 : Heap} (w : Fx A bs U H) (hq : ∀ a : Nat, a < H.size → ¬ bs ≤ a → H1[a]? = H[a]?) : Fx A bs U H1 := ⟨va_Z.kept w.1 hq, va_T.kept w.2.1 hq, vx_Zq.kept w.2.2.1 hq, vx_Zq.kept w.2.2.2.1 hq, w.2.2.2.2⟩
theorem Fx.same {A B : Nat → Nat} {bs : Nat} {U : State} {H : Heap} (w : Fx A bs U H) (h : B SA = A SA) : Fx B bs U H := by
  unfold Fx at w ⊢
  rw [h]
  exact w
abbrev Xt : Type := Program × Launch × Env × Room × State × MethodId × Array Value × List Frame × Method × Code × va_G × Nat × (Nat → Nat) × Nat × (State → Prop)
def Ok (X : Xt) (cb sb pc : Nat) (lv : List (Nat × Value)) (st : List Value) (n : Nat) (h : HP) : Prop := match X with
  | (p, l, e, R, s, m, args, below, meth, c, D, bs, A0, n0, Q) =>
    ∀ (A : Nat → Nat) (cy : Nat → ClassId) (H : Heap) (locs : List Loc) (ls : Array Slot) (cells slots : Nat),
      (∀ i, i < n0 ∨ SA ≤ i → A i = A0 i) → n0 ≤ n → n ≤ SA → (n = n0 → A = A0) → Wd D A cy bs n h s H → va_S (fun q => bs ≤ q) s.heap H locs → lv_has ls c.maxLocals (lv.map fun q => (q.1, trV A q.2)) →
      cells + cb ≤ R.cells → slots + sb ≤ R.slots → W p l e R s m args below meth c H locs cells slots Q (F0 m pc ls (st.map (trV A)))
/-- what a method's rows stand on -/
def Cx (X : Xt) (cc : ByteArray) (own : String) (nL f L : Nat) : Prop := match X with
  | (p, l, _, R, s, m, args, _, meth, c, _, bs, A0, _, _) =>
    p.tables.exec = Jvm.exec ∧ c.code = cc ∧ s.vm.findClass own = some m.cls ∧ (∀ w ∈ lw_all, w.before args s = true) ∧ c.maxLocals = nL ∧ f ≤ R.frames ∧ L ≤ R.locals ∧ Fx A0 bs s s.heap ∧ l.stackTraces = false ∧ meth.locks = false ∧ bs ≤ s.heap.size
def gQ (D : va_G) (bs : Nat) (A0 : Nat → Nat) (n0 : Nat) (K : KT) : Array Value → State → Outcome → State → Prop := fun _ st o t =>
  ∃ (A : Nat → Nat) (cy : Nat → ClassId) (v : Option Value) (n : Nat) (h : HP), o = .returned (v.map (trV A)) ∧ K (.inl v) n h ∧ (∀ i, i < n0 ∨ SA ≤ i → A i = A0 i) ∧ n0 ≤ n ∧ n ≤ SA ∧ (n = n0 → A = A0) ∧ Wd D A cy bs n h t t.heap ∧ va_F (fun q => bs ≤ q) st t
def gX (D : va_G) (bs : Nat) (A0 : Nat → Nat) (n0 : Nat) (K : KT) : String → State → State → Prop := fun E st t =>
  ∃ (A : Nat → Nat) (cy : Nat → ClassId) (n : Nat) (h : HP), K (.inr E) n h ∧ (∀ i, i < n0 ∨ SA ≤ i → A i = A0 i) ∧ n0 ≤ n ∧ n ≤ SA ∧ (n = n0 → A = A0) ∧ Wd D A cy bs n h t t.heap ∧ va_F (fun q => bs ≤ q) st t
/-- how the method ends -/
def CxR (X : Xt) (ret : Option FieldType) (K : KT) : Prop := match X with
  | (_, _, _, R, s, _, args, below, meth, c, D, bs, A0, n0, Q) =>
    meth.sig.returnType = ret ∧ Q = vx_MQ below (gQ D bs A0 n0 K) (gX D bs A0 n0 K) args s R.cells R.slots (fun q => bs ≤ q) ∧ ∀ x ∈ c.exceptionTable.toList, False
end
section
/-! part 05: one rule an instruction -/
def stL1 (lv : List (Nat × Value)) (i : Nat) (v : Value) : List (Nat × Value) := (i, v) :: lv.filter (fun q => !(q.1 == i) && !(q.1 + 1 == i && q.2.category == 2))
def stL2 (lv : List (Nat × Value)) (i : Nat) (v : Value) : List (Nat × Value) := (i, v) :: lv.filter (fun q => !(q.1 == i) && (!(q.1 == i + 1) && !(q.1 + 1 == i && q.2.category == 2)))
theorem stL1_map (A : Nat → Nat) (lv : List (Nat × Value)) (i : Nat) (v : Value) : (i, trV A v) :: (lv.map fun q => (q.1, trV A q.2)).filter (fun q => !(q.1 == i) && !(q.1 + 1 == i && q.2.category == 2)) = (stL1 lv i v).map fun q => (q.1, trV A q.2) := by
  rw [stL1, List.map_cons, List.filter_map]
  simp only [Function.comp_def, trV_cat]
theorem stL2_map (A : Nat → Nat) (lv : List (Nat × Value)) (i : Nat) (v : Value) : (i, trV A v) :: (lv.map fun q => (q.1, trV A q.2)).filter (fun q => !(q.1 == i) && (!(q.1 == i + 1) && !(q.1 + 1 == i && q.2.category == 2))) = (stL2 lv i v).map fun q => (q.1, trV A q.2) := by
  rw [stL2, List.map_cons, List.filter_map]
  simp only [Function.comp_def, trV_cat]
theorem pick_map (A : Nat → Nat) (lv : List (Nat × Value)) (ks : List Nat) : lv_pick (lv.map fun q => (q.1, trV A q.2)) ks = (lv_pick lv ks).map fun q => (q.1, trV A q.2) := by
  induction ks with
  | nil => rfl
  | cons k ks ih =>
    unfold lv_pick at ih ⊢
    rw [List.filterMap_cons, List.filterMap_cons, List.getElem?_map]
    cases hq : lv[k]? with
    | none => simpa using ih
    | some q => simpa using ih
theorem ok_iadd {X : Xt} {cc : ByteArray} {own : String} {nL f L cb sb pc n : Nat} {lv : List (Nat × Value)} {st : List Value} {h : HP} (hc : Cx X cc own nL f L) {x y : Int32} (hd : decode cc pc = .ok (.iadd, 1)) (k : Ok X cb sb (pc + 1) lv (.int (x + y) :: st) n h) : Ok X cb sb pc lv (.int y :: .int x :: st) n h := by
  obtain ⟨p, l, e, R, s, m, args, below, meth, c, D, bs, A0, n0, Q⟩ := X
  obtain ⟨hx, hb, hown, hts, hml, hRf, hRl, hF, htr, hlk, hbs⟩ := hc
  intro A cy H locs ls cells slots h1 h2 h3 h4 hw hS hl h5 h6
  exact lv_iadd hx hb hd (k A cy H locs ls cells slots h1 h2 h3 h4 hw hS hl h5 h6)
theorem ok_isub {X : Xt} {cc : ByteArray} {own : String} {nL f L cb sb pc n : Nat} {lv : List (Nat × Value)} {st : List Value} {h : HP} (hc : Cx X cc own nL f L) {x y : Int32} (hd : decode cc pc = .ok (.isub, 1)) (k : Ok X cb sb (pc + 1) lv (.int (x - y) :: st) n h) : Ok X cb sb pc lv (.int y :: .int x :: st) n h := by
  obtain ⟨p, l, e, R, s, m, args, below, meth, c, D, bs, A0, n0, Q⟩ := X
  obtain ⟨hx, hb, hown, hts, hml, hRf, hRl, hF, htr, hlk, hbs⟩ := hc
  intro A cy H locs ls cells slots h1 h2 h3 h4 hw hS hl h5 h6
  exact lv_isub hx hb hd (k A cy H locs ls cells slots h1 h2 h3 h4 hw hS hl h5 h6)
theorem ok_imul {X : Xt} {cc : ByteArray} {own : String} {nL f L cb sb pc n : Nat} {lv : List (Nat × Value)} {st : List Value} {h : HP} (hc : Cx X cc own nL f L) {x y : Int32} (hd : decode cc pc = .ok (.imul, 1)) (k : Ok X cb sb (pc + 1) lv (.int (x * y) :: st) n h) : Ok X cb sb pc lv (.int y :: .int x :: st) n h := by
  obtain ⟨p, l, e, R, s, m, args, below, meth, c, D, bs, A0, n0, Q⟩ := X
  obtain ⟨hx, hb, hown, hts, hml, hRf, hRl, hF, htr, hlk, hbs⟩ := hc
  intro A cy H locs ls cells slots h1 h2 h3 h4 hw hS hl h5 h6
  exact lv_imul hx hb hd (k A cy H locs ls cells slots h1 h2 h3 h4 hw hS hl h5 h6)
theorem ok_iand {X : Xt} {cc : ByteArray} {own : String} {nL f L cb sb pc n : Nat} {lv : List (Nat × Value)} {st : List Value} {h : HP} (hc : Cx X cc own nL f L) {x y : Int32} (hd : decode cc pc = .ok (.iand, 1)) (k : Ok X cb sb (pc + 1) lv (.int (x &&& y) :: st) n h) : Ok X cb sb pc lv (.int y :: .int x :: st) n h := by
  obtain ⟨p, l, e, R, s, m, args, below, meth, c, D, bs, A0, n0, Q⟩ := X
  obtain ⟨hx, hb, hown, hts, hml, hRf, hRl, hF, htr, hlk, hbs⟩ := hc
  intro A cy H locs ls cells slots h1 h2 h3 h4 hw hS hl h5 h6
  exact lv_iand hx hb hd (k A cy H locs ls cells slots h1 h2 h3 h4 hw hS hl h5 h6)
theorem ok_ior {X : Xt} {cc : ByteArray} {own : String} {nL f L cb sb pc n : Nat} {lv : List (Nat × Value)} {st : List Value} {h : HP} (hc : Cx X cc own nL f L) {x y : Int32} (hd : decode cc pc = .ok (.ior, 1)) (k : Ok X cb sb (pc + 1) lv (.int (x ||| y) :: st) n h) : Ok X cb sb pc lv (.int y :: .int x :: st) n h := by
  obtain ⟨p, l, e, R, s, m, args, below, meth, c, D, bs, A0, n0, Q⟩ := X
  obtain ⟨hx, hb, hown, hts, hml, hRf, hRl, hF, htr, hlk, hbs⟩ := hc
  intro A cy H locs ls cells slots h1 h2 h3 h4 hw hS hl h5 h6
  exact lv_ior hx hb hd (k A cy H locs ls cells slots h1 h2 h3 h4 hw hS hl h5 h6)
theorem ok_ixor {X : Xt} {cc : ByteArray} {own : String} {nL f L cb sb pc n : Nat} {lv : List (Nat × Value)} {st : List Value} {h : HP} (hc : Cx X cc own nL f L) {x y : Int32} (hd : decode cc pc = .ok (.ixor, 1)) (k : Ok X cb sb (pc + 1) lv (.int (x ^^^ y) :: st) n h) : Ok X cb sb pc lv (.int y :: .int x :: st) n h := by
  obtain ⟨p, l, e, R, s, m, args, below, meth, c, D, bs, A0, n0, Q⟩ := X
  obtain ⟨hx, hb, hown, hts, hml, hRf, hRl, hF, htr, hlk, hbs⟩ := hc
  intro A cy H locs ls cells slots h1 h2 h3 h4 hw hS hl h5 h6
  exact lv_ixor hx hb hd (k A cy H locs ls cells slots h1 h2 h3 h4 hw hS hl h5 h6)
theorem ok_idiv {X : Xt} {cc : ByteArray} {own : String} {nL f L cb sb pc n : Nat} {lv : List (Nat × Value)} {st : List Value} {h : HP} (hc : Cx X cc own nL f L) {x y : Int32} (hd : decode cc pc = .ok (.idiv, 1)) (hne : ¬ y = 0) (k : Ok X cb sb (pc + 1) lv (.int (x / y) :: st) n h) : Ok X cb sb pc lv (.int y :: .int x :: st) n h := by
  obtain ⟨p, l, e, R, s, m, args, below, meth, c, D, bs, A0, n0, Q⟩ := X
  obtain ⟨hx, hb, hown, hts, hml, hRf, hRl, hF, htr, hlk, hbs⟩ := hc
  intro A cy H locs ls cells slots h1 h2 h3 h4 hw hS hl h5 h6
  exact lv_idiv hx hb hd hne (k A cy H locs ls cells slots h1 h2 h3 h4 hw hS hl h5 h6)
theorem ok_irem {X : Xt} {cc : ByteArray} {own : String} {nL f L cb sb pc n : Nat} {lv : List (Nat × Value)} {st : List Value} {h : HP} (hc : Cx X cc own nL f L) {x y : Int32} (hd : decode cc pc = .ok (.irem, 1)) (hne : ¬ y = 0) (k : Ok X cb sb (pc + 1) lv (.int (x - x / y * y) :: st) n h) : Ok X cb sb pc lv (.int y :: .int x :: st) n h := by
  obtain ⟨p, l, e, R, s, m, args, below, meth, c, D, bs, A0, n0, Q⟩ := X
  obtain ⟨hx, hb, hown, hts, hml, hRf, hRl, hF, htr, hlk, hbs⟩ := hc
  intro A cy H locs ls cells slots h1 h2 h3 h4 hw hS hl h5 h6
  exact lv_irem hx hb hd hne (k A cy H locs ls cells slots h1 h2 h3 h4 hw hS hl h5 h6)
theorem ok_ishl {X : Xt} {cc : ByteArray} {own : String} {nL f L cb sb pc n : Nat} {lv : List (Nat × Value)} {st : List Value} {h : HP} (hc : Cx X cc own nL f L) {x y : Int32} (hd : decode cc pc = .ok (.ishl, 1)) (k : Ok X cb sb (pc + 1) lv (.int (x <<< (y &&& 31)) :: st) n h) : Ok X cb sb pc lv (.int y :: .int x :: st) n h := by
  obtain ⟨p, l, e, R, s, m, args, below, meth, c, D, bs, A0, n0, Q⟩ := X
  obtain ⟨hx, hb, hown, hts, hml, hRf, hRl, hF, htr, hlk, hbs⟩ := hc
  intro A cy H locs ls cells slots h1 h2 h3 h4 hw hS hl h5 h6
  exact lv_ishl hx hb hd (k A cy H locs ls cells slots h1 h2 h3 h4 hw hS hl h5 h6)
theorem ok_ishr {X : Xt} {cc : ByteArray} {own : String} {nL f L cb sb pc n : Nat} {lv : List (Nat × Value)} {st : List Value} {h : HP} (hc : Cx X cc own nL f L) {x y : Int32} (hd : decode cc pc = .ok (.ishr, 1)) (k : Ok X cb sb (pc + 1) lv (.int (x >>> (y &&& 31)) :: st) n h) : Ok X cb sb pc lv (.int y :: .int x :: st) n h := by
  obtain ⟨p, l, e, R, s, m, args, below, meth, c, D, bs, A0, n0, Q⟩ := X
  obtain ⟨hx, hb, hown, hts, hml, hRf, hRl, hF, htr, hlk, hbs⟩ := hc
  intro A cy H locs ls cells slots h1 h2 h3 h4 hw hS hl h5 h6
  exact lv_ishr hx hb hd (k A cy H locs ls cells slots h1 h2 h3 h4 hw hS hl h5 h6)
theorem ok_ladd {X : Xt} {cc : ByteArray} {own : String} {nL f L cb sb pc n : Nat} {lv : List (Nat × Value)} {st : List Value} {h : HP} (hc : Cx X cc own nL f L) {x y : Int64} (hd : decode cc pc = .ok (.ladd, 1)) (k : Ok X cb sb (pc + 1) lv (.long (x + y) :: st) n h) : Ok X cb sb pc lv (.long y :: .long x :: st) n h := by
  obtain ⟨p, l, e, R, s, m, args, below, meth, c, D, bs, A0, n0, Q⟩ := X
  obtain ⟨hx, hb, hown, hts, hml, hRf, hRl, hF, htr, hlk, hbs⟩ := hc
  intro A cy H locs ls cells slots h1 h2 h3 h4 hw hS hl h5 h6
  exact lv_ladd hx hb hd (k A cy H locs ls cells slots h1 h2 h3 h4 hw hS hl h5 h6)
theorem ok_lsub {X : Xt} {cc : ByteArray} {own : String} {nL f L cb sb pc n : Nat} {lv : List (Nat × Value)} {st : List Value} {h : HP} (hc : Cx X cc own nL f L) {x y : Int64} (hd : decode cc pc = .ok (.lsub, 1)) (k : Ok X cb sb (pc + 1) lv (.long (x - y) :: st) n h) : Ok X cb sb pc lv (.long y :: .long x :: st) n h := by
  obtain ⟨p, l, e, R, s, m, args, below, meth, c, D, bs, A0, n0, Q⟩ := X
  obtain ⟨hx, hb, hown, hts, hml, hRf, hRl, hF, htr, hlk, hbs⟩ := hc
  intro A cy H locs ls cells slots h1 h2 h3 h4 hw hS hl h5 h6
  exact lv_lsub hx hb hd (k A cy H locs ls cells slots h1 h2 h3 h4 hw hS hl h5 h6)
theorem ok_lmul {X : Xt} {cc : ByteArray} {own : String} {nL f L cb sb pc n : Nat} {lv : List (Nat × Value)} {st : List Value} {h : HP} (hc : Cx X cc own nL f L) {x y : Int64} (hd : decode cc pc = .ok (.lmul, 1)) (k : Ok X cb sb (pc + 1) lv (.long (x * y) :: st) n h) : Ok X cb sb pc lv (.long y :: .long x :: st) n h := by
  obtain ⟨p, l, e, R, s, m, args, below, meth, c, D, bs, A0, n0, Q⟩ := X
  obtain ⟨hx, hb, hown, hts, hml, hRf, hRl, hF, htr, hlk, hbs⟩ := hc
  intro A cy H locs ls cells slots h1 h2 h3 h4 hw hS hl h5 h6
  exact lv_lmul hx hb hd (k A cy H locs ls cells slots h1 h2 h3 h4 hw hS hl h5 h6)
theorem ok_lor {X : Xt} {cc : ByteArray} {own : String} {nL f L cb sb pc n : Nat} {lv : List (Nat × Value)} {st : List Value} {h : HP} (hc : Cx X cc own nL f L) {x y : Int64} (hd : decode cc pc = .ok (.lor, 1)) (k : Ok X cb sb (pc + 1) lv (.long (x ||| y) :: st) n h) : Ok X cb sb pc lv (.long y :: .long x :: st) n h := by
  obtain ⟨p, l, e, R, s, m, args, below, meth, c, D, bs, A0, n0, Q⟩ := X
  obtain ⟨hx, hb, hown, hts, hml, hRf, hRl, hF, htr, hlk, hbs⟩ := hc
  intro A cy H locs ls cells slots h1 h2 h3 h4 hw hS hl h5 h6
  exact lv_lor hx hb hd (k A cy H locs ls cells slots h1 h2 h3 h4 hw hS hl h5 h6)
theorem ok_ldiv {X : Xt} {cc : ByteArray} {own : String} {nL f L cb sb pc n : Nat} {lv : List (Nat × Value)} {st : List Value} {h : HP} (hc : Cx X cc own nL f L) {x y : Int64} (hd : decode cc pc = .ok (.ldiv, 1)) (hne : ¬ y = 0) (k : Ok X cb sb (pc + 1) lv (.long (x / y) :: st) n h) : Ok X cb sb pc lv (.long y :: .long x :: st) n h := by
  obtain ⟨p, l, e, R, s, m, args, below, meth, c, D, bs, A0, n0, Q⟩ := X
  obtain ⟨hx, hb, hown, hts, hml, hRf, hRl, hF, htr, hlk, hbs⟩ := hc
  intro A cy H locs ls cells slots h1 h2 h3 h4 hw hS hl h5 h6
  exact lv_ldiv hx hb hd hne (k A cy H locs ls cells slots h1 h2 h3 h4 hw hS hl h5 h6)
theorem ok_lrem {X : Xt} {cc : ByteArray} {own : String} {nL f L cb sb pc n : Nat} {lv : List (Nat × Value)} {st : List Value} {h : HP} (hc : Cx X cc own nL f L) {x y : Int64} (hd : decode cc pc = .ok (.lrem, 1)) (hne : ¬ y = 0) (k : Ok X cb sb (pc + 1) lv (.long (x - x / y * y) :: st) n h) : Ok X cb sb pc lv (.long y :: .long x :: st) n h := by
  obtain ⟨p, l, e, R, s, m, args, below, meth, c, D, bs, A0, n0, Q⟩ := X
  obtain ⟨hx, hb, hown, hts, hml, hRf, hRl, hF, htr, hlk, hbs⟩ := hc
  intro A cy H locs ls cells slots h1 h2 h3 h4 hw hS hl h5 h6
  exact lv_lrem hx hb hd hne (k A cy H locs ls cells slots h1 h2 h3 h4 hw hS hl h5 h6)
theorem ok_lcmp {X : Xt} {cc : ByteArray} {own : String} {nL f L cb sb pc n : Nat} {lv : List (Nat × Value)} {st : List Value} {h : HP} (hc : Cx X cc own nL f L) {x y : Int64} (hd : decode cc pc = .ok (.lcmp, 1)) (k : Ok X cb sb (pc + 1) lv (.int (lg_cmp x y) :: st) n h) : Ok X cb sb pc lv (.long y :: .long x :: st) n h := by
  obtain ⟨p, l, e, R, s, m, args, below, meth, c, D, bs, A0, n0, Q⟩ := X
  obtain ⟨hx, hb, hown, hts, hml, hRf, hRl, hF, htr, hlk, hbs⟩ := hc
  intro A cy H locs ls cells slots h1 h2 h3 h4 hw hS hl h5 h6
  exact W.lcmp hx hb hd (k A cy H locs ls cells slots h1 h2 h3 h4 hw hS hl h5 h6)
theorem ok_ineg {X : Xt} {cc : ByteArray} {own : String} {nL f L cb sb pc n : Nat} {lv : List (Nat × Value)} {st : List Value} {h : HP} (hc : Cx X cc own nL f L) {x : Int32} (hd : decode cc pc = .ok (.ineg, 1)) (k : Ok X cb sb (pc + 1) lv (.int (-x) :: st) n h) : Ok X cb sb pc lv (.int x :: st) n h := by
  obtain ⟨p, l, e, R, s, m, args, below, meth, c, D, bs, A0, n0, Q⟩ := X
  obtain ⟨hx, hb, hown, hts, hml, hRf, hRl, hF, htr, hlk, hbs⟩ := hc
  intro A cy H locs ls cells slots h1 h2 h3 h4 hw hS hl h5 h6
  exact lv_ineg hx hb hd (k A cy H locs ls cells slots h1 h2 h3 h4 hw hS hl h5 h6)
theorem ok_lneg {X : Xt} {cc : ByteArray} {own : String} {nL f L cb sb pc n : Nat} {lv : List (Nat × Value)} {st : List Value} {h : HP} (hc : Cx X cc own nL f L) {x : Int64} (hd : decode cc pc = .ok (.lneg, 1)) (k : Ok X cb sb (pc + 1) lv (.long (-x) :: st) n h) : Ok X cb sb pc lv (.long x :: st) n h := by
  obtain ⟨p, l, e, R, s, m, args, below, meth, c, D, bs, A0, n0, Q⟩ := X
  obtain ⟨hx, hb, hown, hts, hml, hRf, hRl, hF, htr, hlk, hbs⟩ := hc
  intro A cy H locs ls cells slots h1 h2 h3 h4 hw hS hl h5 h6
  exact lv_lneg hx hb hd (k A cy H locs ls cells slots h1 h2 h3 h4 hw hS hl h5 h6)
theorem ok_lshl {X : Xt} {cc : ByteArray} {own : String} {nL f L cb sb pc n : Nat} {lv : List (Nat × Value)} {st : List Value} {h : HP} (hc : Cx X cc own nL f L) {x : Int64} {y : Int32} (hd : decode cc pc = .ok (.lshl, 1)) (k : Ok X cb sb (pc + 1) lv (.long (x <<< (y.toInt64 &&& 63)) :: st) n h) : Ok X cb sb pc lv (.int y :: .long x :: st) n h := by
  obtain ⟨p, l, e, R, s, m, args, below, meth, c, D, bs, A0, n0, Q⟩ := X
  obtain ⟨hx, hb, hown, hts, hml, hRf, hRl, hF, htr, hlk, hbs⟩ := hc
  intro A cy H locs ls cells slots h1 h2 h3 h4 hw hS hl h5 h6
  exact lv_lshl hx hb hd rfl (k A cy H locs ls cells slots h1 h2 h3 h4 hw hS hl h5 h6)
theorem ok_i2l {X : Xt} {cc : ByteArray} {own : String} {nL f L cb sb pc n : Nat} {lv : List (Nat × Value)} {st : List Value} {h : HP} (hc : Cx X cc own nL f L) {x : Int32} (hd : decode cc pc = .ok (.i2l, 1)) (k : Ok X cb sb (pc + 1) lv (.long x.toInt64 :: st) n h) : Ok X cb sb pc lv (.int x :: st) n h := by
  obtain ⟨p, l, e, R, s, m, args, below, meth, c, D, bs, A0, n0, Q⟩ := X
  obtain ⟨hx, hb, hown, hts, hml, hRf, hRl, hF, htr, hlk, hbs⟩ := hc
  intro A cy H locs ls cells slots h1 h2 h3 h4 hw hS hl h5 h6
  exact lv_i2l hx hb hd rfl (k A cy H locs ls cells slots h1 h2 h3 h4 hw hS hl h5 h6)
theorem ok_i2c {X : Xt} {cc : ByteArray} {own : String} {nL f L cb sb pc n : Nat} {lv : List (Nat × Value)} {st : List Value} {h : HP} (hc : Cx X cc own nL f L) {x : Int32} (hd : decode cc pc = .ok (.i2c, 1)) (k : Ok X cb sb (pc + 1) lv (.int (x.toUInt32 % 65536).toInt32 :: st) n h) : Ok X cb sb pc lv (.int x :: st) n h := by
  obtain ⟨p, l, e, R, s, m, args, below, meth, c, D, bs, A0, n0, Q⟩ := X
  obtain ⟨hx, hb, hown, hts, hml, hRf, hRl, hF, htr, hlk, hbs⟩ := hc
  intro A cy H locs ls cells slots h1 h2 h3 h4 hw hS hl h5 h6
  exact lv_i2c hx hb hd rfl (k A cy H locs ls cells slots h1 h2 h3 h4 hw hS hl h5 h6)
theorem ok_iconst {X : Xt} {cc : ByteArray} {own : String} {nL f L cb sb pc n : Nat} {lv : List (Nat × Value)} {st : List Value} {h : HP} (hc : Cx X cc own nL f L) {a : Int} {v : Int32} (hd : decode cc pc = .ok (.iconst a, 1)) (hv : Int32.ofInt a = v) (k : Ok X cb sb (pc + 1) lv (.int v :: st) n h) : Ok X cb sb pc lv (st) n h := by
  obtain ⟨p, l, e, R, s, m, args, below, meth, c, D, bs, A0, n0, Q⟩ := X
  obtain ⟨hx, hb, hown, hts, hml, hRf, hRl, hF, htr, hlk, hbs⟩ := hc
  intro A cy H locs ls cells slots h1 h2 h3 h4 hw hS hl h5 h6
  exact lv_iconst hx hb hd hv (k A cy H locs ls cells slots h1 h2 h3 h4 hw hS hl h5 h6)
theorem ok_bipush {X : Xt} {cc : ByteArray} {own : String} {nL f L cb sb pc n : Nat} {lv : List (Nat × Value)} {st : List Value} {h : HP} (hc : Cx X cc own nL f L) {a : Int} {v : Int32} (hd : decode cc pc = .ok (.bipush a, 2)) (hv : (Int8.ofInt a).toInt32 = v) (k : Ok X cb sb (pc + 2) lv (.int v :: st) n h) : Ok X cb sb pc lv (st) n h := by
  obtain ⟨p, l, e, R, s, m, args, below, meth, c, D, bs, A0, n0, Q⟩ := X
  obtain ⟨hx, hb, hown, hts, hml, hRf, hRl, hF, htr, hlk, hbs⟩ := hc
  intro A cy H locs ls cells slots h1 h2 h3 h4 hw hS hl h5 h6
  exact lv_bipush hx hb hd hv (k A cy H locs ls cells slots h1 h2 h3 h4 hw hS hl h5 h6)
theorem ok_sipush {X : Xt} {cc : ByteArray} {own : String} {nL f L cb sb pc n : Nat} {lv : List (Nat × Value)} {st : List Value} {h : HP} (hc : Cx X cc own nL f L) {a : Int} {v : Int32} (hd : decode cc pc = .ok (.sipush a, 3)) (hv : (Int16.ofInt a).toInt32 = v) (k : Ok X cb sb (pc + 3) lv (.int v :: st) n h) : Ok X cb sb pc lv (st) n h := by
  obtain ⟨p, l, e, R, s, m, args, below, meth, c, D, bs, A0, n0, Q⟩ := X
  obtain ⟨hx, hb, hown, hts, hml, hRf, hRl, hF, htr, hlk, hbs⟩ := hc
  intro A cy H locs ls cells slots h1 h2 h3 h4 hw hS hl h5 h6
  exact lv_sipush hx hb hd hv (k A cy H locs ls cells slots h1 h2 h3 h4 hw hS hl h5 h6)
theorem ok_lconst {X : Xt} {cc : ByteArray} {own : String} {nL f L cb sb pc n : Nat} {lv : List (Nat × Value)} {st : List Value} {h : HP} (hc : Cx X cc own nL f L) {a : Fin 2} {v : Int64} (hd : decode cc pc = .ok (.lconst a, 1)) (hv : Int64.ofNat (a : Nat) = v) (k : Ok X cb sb (pc + 1) lv (.long v :: st) n h) : Ok X cb sb pc lv (st) n h := by
  obtain ⟨p, l, e, R, s, m, args, below, meth, c, D, bs, A0, n0, Q⟩ := X
  obtain ⟨hx, hb, hown, hts, hml, hRf, hRl, hF, htr, hlk, hbs⟩ := hc
  intro A cy H locs ls cells slots h1 h2 h3 h4 hw hS hl h5 h6
  exact lv_lconst hx hb hd hv (k A cy H locs ls cells slots h1 h2 h3 h4 hw hS hl h5 h6)
theorem ok_dconst0 {X : Xt} {cc : ByteArray} {own : String} {nL f L cb sb pc n : Nat} {lv : List (Nat × Value)} {st : List Value} {h : HP} (hc : Cx X cc own nL f L)  (hd : decode cc pc = .ok (.dconst 0, 1)) (k : Ok X cb sb (pc + 1) lv (.double FP.dconst0 :: st) n h) : Ok X cb sb pc lv (st) n h := by
  obtain ⟨p, l, e, R, s, m, args, below, meth, c, D, bs, A0, n0, Q⟩ := X
  obtain ⟨hx, hb, hown, hts, hml, hRf, hRl, hF, htr, hlk, hbs⟩ := hc
  intro A cy H locs ls cells slots h1 h2 h3 h4 hw hS hl h5 h6
  exact lv_dconst0 hx hb hd (k A cy H locs ls cells slots h1 h2 h3 h4 hw hS hl h5 h6)
theorem ok_dconst1 {X : Xt} {cc : ByteArray} {own : String} {nL f L cb sb pc n : Nat} {lv : List (Nat × Value)} {st : List Value} {h : HP} (hc : Cx X cc own nL f L)  (hd : decode cc pc = .ok (.dconst 1, 1)) (k : Ok X cb sb (pc + 1) lv (.double FP.dconst1 :: st) n h) : Ok X cb sb pc lv (st) n h := by
  obtain ⟨p, l, e, R, s, m, args, below, meth, c, D, bs, A0, n0, Q⟩ := X
  obtain ⟨hx, hb, hown, hts, hml, hRf, hRl, hF, htr, hlk, hbs⟩ := hc
  intro A cy H locs ls cells slots h1 h2 h3 h4 hw hS hl h5 h6
  exact lv_dconst1 hx hb hd (k A cy H locs ls cells slots h1 h2 h3 h4 hw hS hl h5 h6)
theorem ok_ldc2 {X : Xt} {cc : ByteArray} {own : String} {nL f L cb sb pc n : Nat} {lv : List (Nat × Value)} {st : List Value} {h : HP} (hc : Cx X cc own nL f L) {index : Nat} {v : Int64} (hd : decode cc pc = .ok (.ldc2_w index, 3)) (hw9 : Cond.constantLong own index v ∈ lw_all) (k : Ok X cb sb (pc + 3) lv (.long v :: st) n h) : Ok X cb sb pc lv (st) n h := by
  obtain ⟨p, l, e, R, s, m, args, below, meth, c, D, bs, A0, n0, Q⟩ := X
  obtain ⟨hx, hb, hown, hts, hml, hRf, hRl, hF, htr, hlk, hbs⟩ := hc
  intro A cy H locs ls cells slots h1 h2 h3 h4 hw hS hl h5 h6
  exact lv_ldc2 hx hb hown (hts _ hw9) hd (k A cy H locs ls cells slots h1 h2 h3 h4 hw hS hl h5 h6)
theorem ok_ldc2d {X : Xt} {cc : ByteArray} {own : String} {nL f L cb sb pc n : Nat} {lv : List (Nat × Value)} {st : List Value} {h : HP} (hc : Cx X cc own nL f L) {index : Nat} {v : UInt64} (hd : decode cc pc = .ok (.ldc2_w index, 3)) (hw9 : Cond.constantDouble own index v ∈ lw_all) (k : Ok X cb sb (pc + 3) lv (.double v :: st) n h) : Ok X cb sb pc lv (st) n h := by
  obtain ⟨p, l, e, R, s, m, args, below, meth, c, D, bs, A0, n0, Q⟩ := X
  obtain ⟨hx, hb, hown, hts, hml, hRf, hRl, hF, htr, hlk, hbs⟩ := hc
  intro A cy H locs ls cells slots h1 h2 h3 h4 hw hS hl h5 h6
  exact lv_ldc2d hx hb hown (hts _ hw9) hd (k A cy H locs ls cells slots h1 h2 h3 h4 hw hS hl h5 h6)
theorem ok_l2d {X : Xt} {cc : ByteArray} {own : String} {nL f L cb sb pc n : Nat} {lv : List (Nat × Value)} {st : List Value} {h : HP} (hc : Cx X cc own nL f L) {x : Int64} (hd : decode cc pc = .ok (.l2d, 1)) (k : Ok X cb sb (pc + 1) lv (.double (FP.l2d x) :: st) n h) : Ok X cb sb pc lv (.long x :: st) n h := by
  obtain ⟨p, l, e, R, s, m, args, below, meth, c, D, bs, A0, n0, Q⟩ := X
  obtain ⟨hx, hb, hown, hts, hml, hRf, hRl, hF, htr, hlk, hbs⟩ := hc
  intro A cy H locs ls cells slots h1 h2 h3 h4 hw hS hl h5 h6
  exact lv_l2d hx hb hd (k A cy H locs ls cells slots h1 h2 h3 h4 hw hS hl h5 h6)
theorem ok_i2d {X : Xt} {cc : ByteArray} {own : String} {nL f L cb sb pc n : Nat} {lv : List (Nat × Value)} {st : List Value} {h : HP} (hc : Cx X cc own nL f L) {x : Int32} (hd : decode cc pc = .ok (.i2d, 1)) (k : Ok X cb sb (pc + 1) lv (.double (FP.i2d x) :: st) n h) : Ok X cb sb pc lv (.int x :: st) n h := by
  obtain ⟨p, l, e, R, s, m, args, below, meth, c, D, bs, A0, n0, Q⟩ := X
  obtain ⟨hx, hb, hown, hts, hml, hRf, hRl, hF, htr, hlk, hbs⟩ := hc
  intro A cy H locs ls cells slots h1 h2 h3 h4 hw hS hl h5 h6
  exact lv_i2d hx hb hd (k A cy H locs ls cells slots h1 h2 h3 h4 hw hS hl h5 h6)
theorem ok_d2l {X : Xt} {cc : ByteArray} {own : String} {nL f L cb sb pc n : Nat} {lv : List (Nat × Value)} {st : List Value} {h : HP} (hc : Cx X cc own nL f L) {x : UInt64} (hd : decode cc pc = .ok (.d2l, 1)) (k : Ok X cb sb (pc + 1) lv (.long (FP.d2l x) :: st) n h) : Ok X cb sb pc lv (.double x :: st) n h := by
  obtain ⟨p, l, e, R, s, m, args, below, meth, c, D, bs, A0, n0, Q⟩ := X
  obtain ⟨hx, hb, hown, hts, hml, hRf, hRl, hF, htr, hlk, hbs⟩ := hc
  intro A cy H locs ls cells slots h1 h2 h3 h4 hw hS hl h5 h6
  exact lv_d2l hx hb hd (k A cy H locs ls cells slots h1 h2 h3 h4 hw hS hl h5 h6)
theorem ok_dneg {X : Xt} {cc : ByteArray} {own : String} {nL f L cb sb pc n : Nat} {lv : List (Nat × Value)} {st : List Value} {h : HP} (hc : Cx X cc own nL f L) {x : UInt64} (hd : decode cc pc = .ok (.dneg, 1)) (k : Ok X cb sb (pc + 1) lv (.double (FP.dneg x) :: st) n h) : Ok X cb sb pc lv (.double x :: st) n h := by
  obtain ⟨p, l, e, R, s, m, args, below, meth, c, D, bs, A0, n0, Q⟩ := X
  obtain ⟨hx, hb, hown, hts, hml, hRf, hRl, hF, htr, hlk, hbs⟩ := hc
  intro A cy H locs ls cells slots h1 h2 h3 h4 hw hS hl h5 h6
  exact lv_dneg hx hb hd (k A cy H locs ls cells slots h1 h2 h3 h4 hw hS hl h5 h6)
theorem ok_dcmp {X : Xt} {cc : ByteArray} {own : String} {nL f L cb sb pc n : Nat} {lv : List (Nat × Value)} {st : List Value} {h : HP} (hc : Cx X cc own nL f L) {x y : UInt64} {op : CmpOp} (hd : decode cc pc = .ok (.dcmp op, 1)) (k : Ok X cb sb (pc + 1) lv (.int (Op.cmpValue (FP.dcmp x y) op) :: st) n h) : Ok X cb sb pc lv (.double y :: .double x :: st) n h := by
  obtain ⟨p, l, e, R, s, m, args, below, meth, c, D, bs, A0, n0, Q⟩ := X
  obtain ⟨hx, hb, hown, hts, hml, hRf, hRl, hF, htr, hlk, hbs⟩ := hc
  intro A cy H locs ls cells slots h1 h2 h3 h4 hw hS hl h5 h6
  exact lv_dcmp hx hb hd (k A cy H locs ls cells slots h1 h2 h3 h4 hw hS hl h5 h6)
theorem ok_dadd {X : Xt} {cc : ByteArray} {own : String} {nL f L cb sb pc n : Nat} {lv : List (Nat × Value)} {st : List Value} {h : HP} (hc : Cx X cc own nL f L) {x y : UInt64} (hd : decode cc pc = .ok (.dadd, 1)) (hne : vf_n64 (FP.dadd x y)) (k : Ok X cb sb (pc + 1) lv (.double (FP.dadd x y) :: st) n h) : Ok X cb sb pc lv (.double y :: .double x :: st) n h := by
  obtain ⟨p, l, e, R, s, m, args, below, meth, c, D, bs, A0, n0, Q⟩ := X
  obtain ⟨hx, hb, hown, hts, hml, hRf, hRl, hF, htr, hlk, hbs⟩ := hc
  intro A cy H locs ls cells slots h1 h2 h3 h4 hw hS hl h5 h6
  exact lv_dadd hx hb hd hne (k A cy H locs ls cells slots h1 h2 h3 h4 hw hS hl h5 h6)
theorem ok_dsub {X : Xt} {cc : ByteArray} {own : String} {nL f L cb sb pc n : Nat} {lv : List (Nat × Value)} {st : List Value} {h : HP} (hc : Cx X cc own nL f L) {x y : UInt64} (hd : decode cc pc = .ok (.dsub, 1)) (hne : vf_n64 (FP.dsub x y)) (k : Ok X cb sb (pc + 1) lv (.double (FP.dsub x y) :: st) n h) : Ok X cb sb pc lv (.double y :: .double x :: st) n h := by
  obtain ⟨p, l, e, R, s, m, args, below, meth, c, D, bs, A0, n0, Q⟩ := X
  obtain ⟨hx, hb, hown, hts, hml, hRf, hRl, hF, htr, hlk, hbs⟩ := hc
  intro A cy H locs ls cells slots h1 h2 h3 h4 hw hS hl h5 h6
  exact lv_dsub hx hb hd hne (k A cy H locs ls cells slots h1 h2 h3 h4 hw hS hl h5 h6)
theorem ok_dmul {X : Xt} {cc : ByteArray} {own : String} {nL f L cb sb pc n : Nat} {lv : List (Nat × Value)} {st : List Value} {h : HP} (hc : Cx X cc own nL f L) {x y : UInt64} (hd : decode cc pc = .ok (.dmul, 1)) (hne : vf_n64 (FP.dmul x y)) (k : Ok X cb sb (pc + 1) lv (.double (FP.dmul x y) :: st) n h) : Ok X cb sb pc lv (.double y :: .double x :: st) n h := by
  obtain ⟨p, l, e, R, s, m, args, below, meth, c, D, bs, A0, n0, Q⟩ := X
  obtain ⟨hx, hb, hown, hts, hml, hRf, hRl, hF, htr, hlk, hbs⟩ := hc
  intro A cy H locs ls cells slots h1 h2 h3 h4 hw hS hl h5 h6
  exact lv_dmul hx hb hd hne (k A cy H locs ls cells slots h1 h2 h3 h4 hw hS hl h5 h6)
theorem ok_ddiv {X : Xt} {cc : ByteArray} {own : String} {nL f L cb sb pc n : Nat} {lv : List (Nat × Value)} {st : List Value} {h : HP} (hc : Cx X cc own nL f L) {x y : UInt64} (hd : decode cc pc = .ok (.ddiv, 1)) (hne : vf_n64 (FP.ddiv x y)) (k : Ok X cb sb (pc + 1) lv (.double (FP.ddiv x y) :: st) n h) : Ok X cb sb pc lv (.double y :: .double x :: st) n h := by
  obtain ⟨p, l, e, R, s, m, args, below, meth, c, D, bs, A0, n0, Q⟩ := X
  obtain ⟨hx, hb, hown, hts, hml, hRf, hRl, hF, htr, hlk, hbs⟩ := hc
  intro A cy H locs ls cells slots h1 h2 h3 h4 hw hS hl h5 h6
  exact lv_ddiv hx hb hd hne (k A cy H locs ls cells slots h1 h2 h3 h4 hw hS hl h5 h6)
theorem ok_dup {X : Xt} {cc : ByteArray} {own : String} {nL f L cb sb pc n : Nat} {lv : List (Nat × Value)} {st : List Value} {h : HP} (hc : Cx X cc own nL f L) {a : Value} (hd : decode cc pc = .ok (.dup, 1)) (ha : a.category = 1) (k : Ok X cb sb (pc + 1) lv (a :: a :: st) n h) : Ok X cb sb pc lv (a :: st) n h := by
  obtain ⟨p, l, e, R, s, m, args, below, meth, c, D, bs, A0, n0, Q⟩ := X
  obtain ⟨hx, hb, hown, hts, hml, hRf, hRl, hF, htr, hlk, hbs⟩ := hc
  intro A cy H locs ls cells slots h1 h2 h3 h4 hw hS hl h5 h6
  exact lv_dup hx hb hd ((trV_cat A a).trans ha) (k A cy H locs ls cells slots h1 h2 h3 h4 hw hS hl h5 h6)
theorem ok_dup2_11 {X : Xt} {cc : ByteArray} {own : String} {nL f L cb sb pc n : Nat} {lv : List (Nat × Value)} {st : List Value} {h : HP} (hc : Cx X cc own nL f L) {a b : Value} (hd : decode cc pc = .ok (.dup2, 1)) (ha : a.category = 1) (hb9 : b.category = 1) (k : Ok X cb sb (pc + 1) lv (a :: b :: a :: b :: st) n h) : Ok X cb sb pc lv (a :: b :: st) n h := by
  obtain ⟨p, l, e, R, s, m, args, below, meth, c, D, bs, A0, n0, Q⟩ := X
  obtain ⟨hx, hb, hown, hts, hml, hRf, hRl, hF, htr, hlk, hbs⟩ := hc
  intro A cy H locs ls cells slots h1 h2 h3 h4 hw hS hl h5 h6
  exact lv_dup2_11 hx hb hd ((trV_cat A a).trans ha) ((trV_cat A b).trans hb9) (k A cy H locs ls cells slots h1 h2 h3 h4 hw hS hl h5 h6)
theorem ok_dup2_2 {X : Xt} {cc : ByteArray} {own : String} {nL f L cb sb pc n : Nat} {lv : List (Nat × Value)} {st : List Value} {h : HP} (hc : Cx X cc own nL f L) {a : Value} (hd : decode cc pc = .ok (.dup2, 1)) (ha : a.category = 2) (k : Ok X cb sb (pc + 1) lv (a :: a :: st) n h) : Ok X cb sb pc lv (a :: st) n h := by
  obtain ⟨p, l, e, R, s, m, args, below, meth, c, D, bs, A0, n0, Q⟩ := X
  obtain ⟨hx, hb, hown, hts, hml, hRf, hRl, hF, htr, hlk, hbs⟩ := hc
  intro A cy H locs ls cells slots h1 h2 h3 h4 hw hS hl h5 h6
  exact lv_dup2_2 hx hb hd ((trV_cat A a).trans ha) (k A cy H locs ls cells slots h1 h2 h3 h4 hw hS hl h5 h6)
theorem ok_pop {X : Xt} {cc : ByteArray} {own : String} {nL f L cb sb pc n : Nat} {lv : List (Nat × Value)} {st : List Value} {h : HP} (hc : Cx X cc own nL f L) {a : Value} (hd : decode cc pc = .ok (.pop, 1)) (ha : a.category = 1) (k : Ok X cb sb (pc + 1) lv (st) n h) : Ok X cb sb pc lv (a :: st) n h := by
  obtain ⟨p, l, e, R, s, m, args, below, meth, c, D, bs, A0, n0, Q⟩ := X
  obtain ⟨hx, hb, hown, hts, hml, hRf, hRl, hF, htr, hlk, hbs⟩ := hc
  intro A cy H locs ls cells slots h1 h2 h3 h4 hw hS hl h5 h6
  exact lv_pop hx hb hd ((trV_cat A a).trans ha) (k A cy H locs ls cells slots h1 h2 h3 h4 hw hS hl h5 h6)
theorem ok_iload_n {X : Xt} {cc : ByteArray} {own : String} {nL f L cb sb pc n : Nat} {lv : List (Nat × Value)} {st : List Value} {h : HP} (hc : Cx X cc own nL f L) {k9 : Fin 4} {i : Nat} {x : Int32} (hd : decode cc pc = .ok (.iload_n k9, 1)) (hi : (k9 : Nat) = i) (q : Nat) (hk : lv[q]? = some (i, .int x)) (k : Ok X cb sb (pc + 1) lv (.int x :: st) n h) : Ok X cb sb pc lv st n h := by
  obtain ⟨p, l, e, R, s, m, args, below, meth, c, D, bs, A0, n0, Q⟩ := X
  obtain ⟨hx, hb, hown, hts, hml, hRf, hRl, hF, htr, hlk, hbs⟩ := hc
  intro A cy H locs ls cells slots h1 h2 h3 h4 hw hS hl h5 h6
  exact lv_iload_n hx hb hd hi (lv_at hl q (i := i) (v := .int x) (by rw [List.getElem?_map, hk]; rfl)) (k A cy H locs ls cells slots h1 h2 h3 h4 hw hS hl h5 h6)
theorem ok_iload {X : Xt} {cc : ByteArray} {own : String} {nL f L cb sb pc n : Nat} {lv : List (Nat × Value)} {st : List Value} {h : HP} (hc : Cx X cc own nL f L) {i : Nat} {x : Int32} (hd : decode cc pc = .ok (.iload i, 2)) (q : Nat) (hk : lv[q]? = some (i, .int x)) (k : Ok X cb sb (pc + 2) lv (.int x :: st) n h) : Ok X cb sb pc lv st n h := by
  obtain ⟨p, l, e, R, s, m, args, below, meth, c, D, bs, A0, n0, Q⟩ := X
  obtain ⟨hx, hb, hown, hts, hml, hRf, hRl, hF, htr, hlk, hbs⟩ := hc
  intro A cy H locs ls cells slots h1 h2 h3 h4 hw hS hl h5 h6
  exact lv_iload hx hb hd (lv_at hl q (i := i) (v := .int x) (by rw [List.getElem?_map, hk]; rfl)) (k A cy H locs ls cells slots h1 h2 h3 h4 hw hS hl h5 h6)
theorem ok_istore_n {X : Xt} {cc : ByteArray} {own : String} {nL f L cb sb pc n : Nat} {lv : List (Nat × Value)} {st : List Value} {h : HP} (hc : Cx X cc own nL f L) {k9 : Fin 4} {i : Nat} {x : Int32} {lv' : List (Nat × Value)} (hd : decode cc pc = .ok (.istore_n k9, 1)) (hi : (k9 : Nat) = i) (hn : i < nL) (hl' : stL1 lv i (.int x) = lv') (k : Ok X cb sb (pc + 1) lv' st n h) : Ok X cb sb pc lv (.int x :: st) n h := by
  obtain ⟨p, l, e, R, s, m, args, below, meth, c, D, bs, A0, n0, Q⟩ := X
  obtain ⟨hx, hb, hown, hts, hml, hRf, hRl, hF, htr, hlk, hbs⟩ := hc
  intro A cy H locs ls cells slots h1 h2 h3 h4 hw hS hl h5 h6
  subst hl'
  exact lv_istore_n hx hb hd hi hl (by rw [hml]; exact hn) (stL1_map A lv i (.int x)) (fun ls' hl' => k A cy H locs ls' cells slots h1 h2 h3 h4 hw hS hl' h5 h6)
theorem ok_istore {X : Xt} {cc : ByteArray} {own : String} {nL f L cb sb pc n : Nat} {lv : List (Nat × Value)} {st : List Value} {h : HP} (hc : Cx X cc own nL f L) {i : Nat} {x : Int32} {lv' : List (Nat × Value)} (hd : decode cc pc = .ok (.istore i, 2)) (hn : i < nL) (hl' : stL1 lv i (.int x) = lv') (k : Ok X cb sb (pc + 2) lv' st n h) : Ok X cb sb pc lv (.int x :: st) n h := by
  obtain ⟨p, l, e, R, s, m, args, below, meth, c, D, bs, A0, n0, Q⟩ := X
  obtain ⟨hx, hb, hown, hts, hml, hRf, hRl, hF, htr, hlk, hbs⟩ := hc
  intro A cy H locs ls cells slots h1 h2 h3 h4 hw hS hl h5 h6
  subst hl'
  exact lv_istore hx hb hd hl (by rw [hml]; exact hn) (stL1_map A lv i (.int x)) (fun ls' hl' => k A cy H locs ls' cells slots h1 h2 h3 h4 hw hS hl' h5 h6)
theorem ok_lload_n {X : Xt} {cc : ByteArray} {own : String} {nL f L cb sb pc n : Nat} {lv : List (Nat × Value)} {st : List Value} {h : HP} (hc : Cx X cc own nL f L) {k9 : Fin 4} {i : Nat} {x : Int64} (hd : decode cc pc = .ok (.lload_n k9, 1)) (hi : (k9 : Nat) = i) (q : Nat) (hk : lv[q]? = some (i, .long x)) (k : Ok X cb sb (pc + 1) lv (.long x :: st) n h) : Ok X cb sb pc lv st n h := by
  obtain ⟨p, l, e, R, s, m, args, below, meth, c, D, bs, A0, n0, Q⟩ := X
  obtain ⟨hx, hb, hown, hts, hml, hRf, hRl, hF, htr, hlk, hbs⟩ := hc
  intro A cy H locs ls cells slots h1 h2 h3 h4 hw hS hl h5 h6
  exact lv_lload_n hx hb hd hi (lv_at hl q (i := i) (v := .long x) (by rw [List.getElem?_map, hk]; rfl)) (k A cy H locs ls cells slots h1 h2 h3 h4 hw hS hl h5 h6)
theorem ok_lload {X : Xt} {cc : ByteArray} {own : String} {nL f L cb sb pc n : Nat} {lv : List (Nat × Value)} {st : List Value} {h : HP} (hc : Cx X cc own nL f L) {i : Nat} {x : Int64} (hd : decode cc pc = .ok (.lload i, 2)) (q : Nat) (hk : lv[q]? = some (i, .long x)) (k : Ok X cb sb (pc + 2) lv (.long x :: st) n h) : Ok X cb sb pc lv st n h := by
  obtain ⟨p, l, e, R, s, m, args, below, meth, c, D, bs, A0, n0, Q⟩ := X
  obtain ⟨hx, hb, hown, hts, hml, hRf, hRl, hF, htr, hlk, hbs⟩ := hc
  intro A cy H locs ls cells slots h1 h2 h3 h4 hw hS hl h5 h6
  exact lv_lload hx hb hd (lv_at hl q (i := i) (v := .long x) (by rw [List.getElem?_map, hk]; rfl)) (k A cy H locs ls cells slots h1 h2 h3 h4 hw hS hl h5 h6)
theorem ok_lstore_n {X : Xt} {cc : ByteArray} {own : String} {nL f L cb sb pc n : Nat} {lv : List (Nat × Value)} {st : List Value} {h : HP} (hc : Cx X cc own nL f L) {k9 : Fin 4} {i : Nat} {x : Int64} {lv' : List (Nat × Value)} (hd : decode cc pc = .ok (.lstore_n k9, 1)) (hi : (k9 : Nat) = i) (hn : i + 1 < nL) (hl' : stL2 lv i (.long x) = lv') (k : Ok X cb sb (pc + 1) lv' st n h) : Ok X cb sb pc lv (.long x :: st) n h := by
  obtain ⟨p, l, e, R, s, m, args, below, meth, c, D, bs, A0, n0, Q⟩ := X
  obtain ⟨hx, hb, hown, hts, hml, hRf, hRl, hF, htr, hlk, hbs⟩ := hc
  intro A cy H locs ls cells slots h1 h2 h3 h4 hw hS hl h5 h6
  subst hl'
  exact lv_lstore_n hx hb hd hi hl (by rw [hml]; exact hn) (stL2_map A lv i (.long x)) (fun ls' hl' => k A cy H locs ls' cells slots h1 h2 h3 h4 hw hS hl' h5 h6)
theorem ok_lstore {X : Xt} {cc : ByteArray} {own : String} {nL f L cb sb pc n : Nat} {lv : List (Nat × Value)} {st : List Value} {h : HP} (hc : Cx X cc own nL f L) {i : Nat} {x : Int64} {lv' : List (Nat × Value)} (hd : decode cc pc = .ok (.lstore i, 2)) (hn : i + 1 < nL) (hl' : stL2 lv i (.long x) = lv') (k : Ok X cb sb (pc + 2) lv' st n h) : Ok X cb sb pc lv (.long x :: st) n h := by
  obtain ⟨p, l, e, R, s, m, args, below, meth, c, D, bs, A0, n0, Q⟩ := X
  obtain ⟨hx, hb, hown, hts, hml, hRf, hRl, hF, htr, hlk, hbs⟩ := hc
  intro A cy H locs ls cells slots h1 h2 h3 h4 hw hS hl h5 h6
  subst hl'
  exact lv_lstore hx hb hd hl (by rw [hml]; exact hn) (stL2_map A lv i (.long x)) (fun ls' hl' => k A cy H locs ls' cells slots h1 h2 h3 h4 hw hS hl' h5 h6)
theorem ok_aload_n {X : Xt} {cc : ByteArray} {own : String} {nL f L cb sb pc n : Nat} {lv : List (Nat × Value)} {st : List Value} {h : HP} (hc : Cx X cc own nL f L) {k9 : Fin 4} {i : Nat} {x : Nat} (hd : decode cc pc = .ok (.aload_n k9, 1)) (hi : (k9 : Nat) = i) (q : Nat) (hk : lv[q]? = some (i, .ref x)) (k : Ok X cb sb (pc + 1) lv (.ref x :: st) n h) : Ok X cb sb pc lv st n h := by
  obtain ⟨p, l, e, R, s, m, args, below, meth, c, D, bs, A0, n0, Q⟩ := X
  obtain ⟨hx, hb, hown, hts, hml, hRf, hRl, hF, htr, hlk, hbs⟩ := hc
  intro A cy H locs ls cells slots h1 h2 h3 h4 hw hS hl h5 h6
  exact lv_aload_n hx hb hd hi (lv_at hl q (i := i) (v := .ref (A x)) (by rw [List.getElem?_map, hk]; rfl)) (k A cy H locs ls cells slots h1 h2 h3 h4 hw hS hl h5 h6)
theorem ok_aload {X : Xt} {cc : ByteArray} {own : String} {nL f L cb sb pc n : Nat} {lv : List (Nat × Value)} {st : List Value} {h : HP} (hc : Cx X cc own nL f L) {i : Nat} {x : Nat} (hd : decode cc pc = .ok (.aload i, 2)) (q : Nat) (hk : lv[q]? = some (i, .ref x)) (k : Ok X cb sb (pc + 2) lv (.ref x :: st) n h) : Ok X cb sb pc lv st n h := by
  obtain ⟨p, l, e, R, s, m, args, below, meth, c, D, bs, A0, n0, Q⟩ := X
  obtain ⟨hx, hb, hown, hts, hml, hRf, hRl, hF, htr, hlk, hbs⟩ := hc
  intro A cy H locs ls cells slots h1 h2 h3 h4 hw hS hl h5 h6
  exact lv_aload hx hb hd (lv_at hl q (i := i) (v := .ref (A x)) (by rw [List.getElem?_map, hk]; rfl)) (k A cy H locs ls cells slots h1 h2 h3 h4 hw hS hl h5 h6)
theorem ok_astore_n {X : Xt} {cc : ByteArray} {own : String} {nL f L cb sb pc n : Nat} {lv : List (Nat × Value)} {st : List Value} {h : HP} (hc : Cx X cc own nL f L) {k9 : Fin 4} {i : Nat} {x : Nat} {lv' : List (Nat × Value)} (hd : decode cc pc = .ok (.astore_n k9, 1)) (hi : (k9 : Nat) = i) (hn : i < nL) (hl' : stL1 lv i (.ref x) = lv') (k : Ok X cb sb (pc + 1) lv' st n h) : Ok X cb sb pc lv (.ref x :: st) n h := by
  obtain ⟨p, l, e, R, s, m, args, below, meth, c, D, bs, A0, n0, Q⟩ := X
  obtain ⟨hx, hb, hown, hts, hml, hRf, hRl, hF, htr, hlk, hbs⟩ := hc
  intro A cy H locs ls cells slots h1 h2 h3 h4 hw hS hl h5 h6
  subst hl'
  exact lv_astore_n hx hb hd hi hl (by rw [hml]; exact hn) (stL1_map A lv i (.ref x)) (fun ls' hl' => k A cy H locs ls' cells slots h1 h2 h3 h4 hw hS hl' h5 h6)
theorem ok_astore {X : Xt} {cc : ByteArray} {own : String} {nL f L cb sb pc n : Nat} {lv : List (Nat × Value)} {st : List Value} {h : HP} (hc : Cx X cc own nL f L) {i : Nat} {x : Nat} {lv' : List (Nat × Value)} (hd : decode cc pc = .ok (.astore i, 2)) (hn : i < nL) (hl' : stL1 lv i (.ref x) = lv') (k : Ok X cb sb (pc + 2) lv' st n h) : Ok X cb sb pc lv (.ref x :: st) n h := by
  obtain ⟨p, l, e, R, s, m, args, below, meth, c, D, bs, A0, n0, Q⟩ := X
  obtain ⟨hx, hb, hown, hts, hml, hRf, hRl, hF, htr, hlk, hbs⟩ := hc
  intro A cy H locs ls cells slots h1 h2 h3 h4 hw hS hl h5 h6
  subst hl'
  exact lv_astore hx hb hd hl (by rw [hml]; exact hn) (stL1_map A lv i (.ref x)) (fun ls' hl' => k A cy H locs ls' cells slots h1 h2 h3 h4 hw hS hl' h5 h6)
theorem ok_dload_n {X : Xt} {cc : ByteArray} {own : String} {nL f L cb sb pc n : Nat} {lv : List (Nat × Value)} {st : List Value} {h : HP} (hc : Cx X cc own nL f L) {k9 : Fin 4} {i : Nat} {x : UInt64} (hd : decode cc pc = .ok (.dload_n k9, 1)) (hi : (k9 : Nat) = i) (q : Nat) (hk : lv[q]? = some (i, .double x)) (k : Ok X cb sb (pc + 1) lv (.double x :: st) n h) : Ok X cb sb pc lv st n h := by
  obtain ⟨p, l, e, R, s, m, args, below, meth, c, D, bs, A0, n0, Q⟩ := X
  obtain ⟨hx, hb, hown, hts, hml, hRf, hRl, hF, htr, hlk, hbs⟩ := hc
  intro A cy H locs ls cells slots h1 h2 h3 h4 hw hS hl h5 h6
  exact lv_dload_n hx hb hd hi (lv_at hl q (i := i) (v := .double x) (by rw [List.getElem?_map, hk]; rfl)) (k A cy H locs ls cells slots h1 h2 h3 h4 hw hS hl h5 h6)
theorem ok_dload {X : Xt} {cc : ByteArray} {own : String} {nL f L cb sb pc n : Nat} {lv : List (Nat × Value)} {st : List Value} {h : HP} (hc : Cx X cc own nL f L) {i : Nat} {x : UInt64} (hd : decode cc pc = .ok (.dload i, 2)) (q : Nat) (hk : lv[q]? = some (i, .double x)) (k : Ok X cb sb (pc + 2) lv (.double x :: st) n h) : Ok X cb sb pc lv st n h := by
  obtain ⟨p, l, e, R, s, m, args, below, meth, c, D, bs, A0, n0, Q⟩ := X
  obtain ⟨hx, hb, hown, hts, hml, hRf, hRl, hF, htr, hlk, hbs⟩ := hc
  intro A cy H locs ls cells slots h1 h2 h3 h4 hw hS hl h5 h6
  exact lv_dload hx hb hd (lv_at hl q (i := i) (v := .double x) (by rw [List.getElem?_map, hk]; rfl)) (k A cy H locs ls cells slots h1 h2 h3 h4 hw hS hl h5 h6)
theorem ok_dstore_n {X : Xt} {cc : ByteArray} {own : String} {nL f L cb sb pc n : Nat} {lv : List (Nat × Value)} {st : List Value} {h : HP} (hc : Cx X cc own nL f L) {k9 : Fin 4} {i : Nat} {x : UInt64} {lv' : List (Nat × Value)} (hd : decode cc pc = .ok (.dstore_n k9, 1)) (hi : (k9 : Nat) = i) (hn : i + 1 < nL) (hl' : stL2 lv i (.double x) = lv') (k : Ok X cb sb (pc + 1) lv' st n h) : Ok X cb sb pc lv (.double x :: st) n h := by
  obtain ⟨p, l, e, R, s, m, args, below, meth, c, D, bs, A0, n0, Q⟩ := X
  obtain ⟨hx, hb, hown, hts, hml, hRf, hRl, hF, htr, hlk, hbs⟩ := hc
  intro A cy H locs ls cells slots h1 h2 h3 h4 hw hS hl h5 h6
  subst hl'
  exact lv_dstore_n hx hb hd hi hl (by rw [hml]; exact hn) (stL2_map A lv i (.double x)) (fun ls' hl' => k A cy H locs ls' cells slots h1 h2 h3 h4 hw hS hl' h5 h6)
theorem ok_dstore {X : Xt} {cc : ByteArray} {own : String} {nL f L cb sb pc n : Nat} {lv : List (Nat × Value)} {st : List Value} {h : HP} (hc : Cx X cc own nL f L) {i : Nat} {x : UInt64} {lv' : List (Nat × Value)} (hd : decode cc pc = .ok (.dstore i, 2)) (hn : i + 1 < nL) (hl' : stL2 lv i (.double x) = lv') (k : Ok X cb sb (pc + 2) lv' st n h) : Ok X cb sb pc lv (.double x :: st) n h := by
  obtain ⟨p, l, e, R, s, m, args, below, meth, c, D, bs, A0, n0, Q⟩ := X
  obtain ⟨hx, hb, hown, hts, hml, hRf, hRl, hF, htr, hlk, hbs⟩ := hc
  intro A cy H locs ls cells slots h1 h2 h3 h4 hw hS hl h5 h6
  subst hl'
  exact lv_dstore hx hb hd hl (by rw [hml]; exact hn) (stL2_map A lv i (.double x)) (fun ls' hl' => k A cy H locs ls' cells slots h1 h2 h3 h4 hw hS hl' h5 h6)
theorem ok_iinc {X : Xt} {cc : ByteArray} {own : String} {nL f L cb sb pc n : Nat} {lv : List (Nat × Value)} {st : List Value} {h : HP} (hc : Cx X cc own nL f L) {i q : Nat} {a : Int} {x v : Int32} {lv' : List (Nat × Value)} (hd : decode cc pc = .ok (.iinc i a, 3)) (hk : lv[q]? = some (i, .int x)) (hv : x + Int32.ofInt a = v) (hn : i < nL) (hl' : stL1 lv i (.int v) = lv') (k : Ok X cb sb (pc + 3) lv' st n h) : Ok X cb sb pc lv st n h := by
  obtain ⟨p, l, e, R, s, m, args, below, meth, c, D, bs, A0, n0, Q⟩ := X
  obtain ⟨hx, hb, hown, hts, hml, hRf, hRl, hF, htr, hlk, hbs⟩ := hc
  intro A cy H locs ls cells slots h1 h2 h3 h4 hw hS hl h5 h6
  subst hl'
  exact lv_iinc (k := q) hx hb hd hl (by rw [List.getElem?_map, hk]; rfl) hv (by rw [hml]; exact hn) (stL1_map A lv i (.int v)) (fun ls' hl' => k A cy H locs ls' cells slots h1 h2 h3 h4 hw hS hl' h5 h6)
theorem ok_if_eq {X : Xt} {cc : ByteArray} {own : String} {nL f L cb sb pc n : Nat} {lv : List (Nat × Value)} {st : List Value} {h : HP} (hc : Cx X cc own nL f L) {x : Int32} {off : Int} {tgt : Nat} (hd : decode cc pc = .ok (.ifCond .eq off, 3)) (ht : (pc : Int) + off = (tgt : Int)) (kt : x = 0 → Ok X cb sb tgt lv st n h) (kf : ¬ x = 0 → Ok X cb sb (pc + 3) lv st n h) : Ok X cb sb pc lv (.int x :: st) n h := by
  obtain ⟨p, l, e, R, s, m, args, below, meth, c, D, bs, A0, n0, Q⟩ := X
  obtain ⟨hx, hb, hown, hts, hml, hRf, hRl, hF, htr, hlk, hbs⟩ := hc
  intro A cy H locs ls cells slots h1 h2 h3 h4 hw hS hl h5 h6
  exact lv_if_eq hx hb hd ht (fun q9 => (kt q9) A cy H locs ls cells slots h1 h2 h3 h4 hw hS hl h5 h6) (fun q9 => (kf q9) A cy H locs ls cells slots h1 h2 h3 h4 hw hS hl h5 h6)
theorem ok_if_ne {X : Xt} {cc : ByteArray} {own : String} {nL f L cb sb pc n : Nat} {lv : List (Nat × Value)} {st : List Value} {h : HP} (hc : Cx X cc own nL f L) {x : Int32} {off : Int} {tgt : Nat} (hd : decode cc pc = .ok (.ifCond .ne off, 3)) (ht : (pc : Int) + off = (tgt : Int)) (kt : ¬ x = 0 → Ok X cb sb tgt lv st n h) (kf : x = 0 → Ok X cb sb (pc + 3) lv st n h) : Ok X cb sb pc lv (.int x :: st) n h := by
  obtain ⟨p, l, e, R, s, m, args, below, meth, c, D, bs, A0, n0, Q⟩ := X
  obtain ⟨hx, hb, hown, hts, hml, hRf, hRl, hF, htr, hlk, hbs⟩ := hc
  intro A cy H locs ls cells slots h1 h2 h3 h4 hw hS hl h5 h6
  exact lv_if_ne hx hb hd ht (fun q9 => (kt q9) A cy H locs ls cells slots h1 h2 h3 h4 hw hS hl h5 h6) (fun q9 => (kf q9) A cy H locs ls cells slots h1 h2 h3 h4 hw hS hl h5 h6)
theorem ok_if_lt {X : Xt} {cc : ByteArray} {own : String} {nL f L cb sb pc n : Nat} {lv : List (Nat × Value)} {st : List Value} {h : HP} (hc : Cx X cc own nL f L) {x : Int32} {off : Int} {tgt : Nat} (hd : decode cc pc = .ok (.ifCond .lt off, 3)) (ht : (pc : Int) + off = (tgt : Int)) (kt : x < 0 → Ok X cb sb tgt lv st n h) (kf : ¬ x < 0 → Ok X cb sb (pc + 3) lv st n h) : Ok X cb sb pc lv (.int x :: st) n h := by
  obtain ⟨p, l, e, R, s, m, args, below, meth, c, D, bs, A0, n0, Q⟩ := X
  obtain ⟨hx, hb, hown, hts, hml, hRf, hRl, hF, htr, hlk, hbs⟩ := hc
  intro A cy H locs ls cells slots h1 h2 h3 h4 hw hS hl h5 h6
  exact lv_if_lt hx hb hd ht (fun q9 => (kt q9) A cy H locs ls cells slots h1 h2 h3 h4 hw hS hl h5 h6) (fun q9 => (kf q9) A cy H locs ls cells slots h1 h2 h3 h4 hw hS hl h5 h6)
theorem ok_if_ge {X : Xt} {cc : ByteArray} {own : String} {nL f L cb sb pc n : Nat} {lv : List (Nat × Value)} {st : List Value} {h : HP} (hc : Cx X cc own nL f L) {x : Int32} {off : Int} {tgt : Nat} (hd : decode cc pc = .ok (.ifCond .ge off, 3)) (ht : (pc : Int) + off = (tgt : Int)) (kt : 0 ≤ x → Ok X cb sb tgt lv st n h) (kf : ¬ 0 ≤ x → Ok X cb sb (pc + 3) lv st n h) : Ok X cb sb pc lv (.int x :: st) n h := by
  obtain ⟨p, l, e, R, s, m, args, below, meth, c, D, bs, A0, n0, Q⟩ := X
  obtain ⟨hx, hb, hown, hts, hml, hRf, hRl, hF, htr, hlk, hbs⟩ := hc
  intro A cy H locs ls cells slots h1 h2 h3 h4 hw hS hl h5 h6
  exact lv_if_ge hx hb hd ht (fun q9 => (kt q9) A cy H locs ls cells slots h1 h2 h3 h4 hw hS hl h5 h6) (fun q9 => (kf q9) A cy H locs ls cells slots h1 h2 h3 h4 hw hS hl h5 h6)
theorem ok_if_gt {X : Xt} {cc : ByteArray} {own : String} {nL f L cb sb pc n : Nat} {lv : List (Nat × Value)} {st : List Value} {h : HP} (hc : Cx X cc own nL f L) {x : Int32} {off : Int} {tgt : Nat} (hd : decode cc pc = .ok (.ifCond .gt off, 3)) (ht : (pc : Int) + off = (tgt : Int)) (kt : 0 < x → Ok X cb sb tgt lv st n h) (kf : ¬ 0 < x → Ok X cb sb (pc + 3) lv st n h) : Ok X cb sb pc lv (.int x :: st) n h := by
  obtain ⟨p, l, e, R, s, m, args, below, meth, c, D, bs, A0, n0, Q⟩ := X
  obtain ⟨hx, hb, hown, hts, hml, hRf, hRl, hF, htr, hlk, hbs⟩ := hc
  intro A cy H locs ls cells slots h1 h2 h3 h4 hw hS hl h5 h6
  exact lv_if_gt hx hb hd ht (fun q9 => (kt q9) A cy H locs ls cells slots h1 h2 h3 h4 hw hS hl h5 h6) (fun q9 => (kf q9) A cy H locs ls cells slots h1 h2 h3 h4 hw hS hl h5 h6)
theorem ok_if_le {X : Xt} {cc : ByteArray} {own : String} {nL f L cb sb pc n : Nat} {lv : List (Nat × Value)} {st : List Value} {h : HP} (hc : Cx X cc own nL f L) {x : Int32} {off : Int} {tgt : Nat} (hd : decode cc pc = .ok (.ifCond .le off, 3)) (ht : (pc : Int) + off = (tgt : Int)) (kt : x ≤ 0 → Ok X cb sb tgt lv st n h) (kf : ¬ x ≤ 0 → Ok X cb sb (pc + 3) lv st n h) : Ok X cb sb pc lv (.int x :: st) n h := by
  obtain ⟨p, l, e, R, s, m, args, below, meth, c, D, bs, A0, n0, Q⟩ := X
  obtain ⟨hx, hb, hown, hts, hml, hRf, hRl, hF, htr, hlk, hbs⟩ := hc
  intro A cy H locs ls cells slots h1 h2 h3 h4 hw hS hl h5 h6
  exact lv_if_le hx hb hd ht (fun q9 => (kt q9) A cy H locs ls cells slots h1 h2 h3 h4 hw hS hl h5 h6) (fun q9 => (kf q9) A cy H locs ls cells slots h1 h2 h3 h4 hw hS hl h5 h6)
theorem ok_icmp_eq {X : Xt} {cc : ByteArray} {own : String} {nL f L cb sb pc n : Nat} {lv : List (Nat × Value)} {st : List Value} {h : HP} (hc : Cx X cc own nL f L) {x y : Int32} {off : Int} {tgt : Nat} (hd : decode cc pc = .ok (.if_icmp .eq off, 3)) (ht : (pc : Int) + off = (tgt : Int)) (kt : x = y → Ok X cb sb tgt lv st n h) (kf : ¬ x = y → Ok X cb sb (pc + 3) lv st n h) : Ok X cb sb pc lv (.int y :: .int x :: st) n h := by
  obtain ⟨p, l, e, R, s, m, args, below, meth, c, D, bs, A0, n0, Q⟩ := X
  obtain ⟨hx, hb, hown, hts, hml, hRf, hRl, hF, htr, hlk, hbs⟩ := hc
  intro A cy H locs ls cells slots h1 h2 h3 h4 hw hS hl h5 h6
  exact lv_icmp_eq hx hb hd ht (fun q9 => (kt q9) A cy H locs ls cells slots h1 h2 h3 h4 hw hS hl h5 h6) (fun q9 => (kf q9) A cy H locs ls cells slots h1 h2 h3 h4 hw hS hl h5 h6)
theorem ok_icmp_ne {X : Xt} {cc : ByteArray} {own : String} {nL f L cb sb pc n : Nat} {lv : List (Nat × Value)} {st : List Value} {h : HP} (hc : Cx X cc own nL f L) {x y : Int32} {off : Int} {tgt : Nat} (hd : decode cc pc = .ok (.if_icmp .ne off, 3)) (ht : (pc : Int) + off = (tgt : Int)) (kt : ¬ x = y → Ok X cb sb tgt lv st n h) (kf : x = y → Ok X cb sb (pc + 3) lv st n h) : Ok X cb sb pc lv (.int y :: .int x :: st) n h := by
  obtain ⟨p, l, e, R, s, m, args, below, meth, c, D, bs, A0, n0, Q⟩ := X
  obtain ⟨hx, hb, hown, hts, hml, hRf, hRl, hF, htr, hlk, hbs⟩ := hc
  intro A cy H locs ls cells slots h1 h2 h3 h4 hw hS hl h5 h6
  exact lv_icmp_ne hx hb hd ht (fun q9 => (kt q9) A cy H locs ls cells slots h1 h2 h3 h4 hw hS hl h5 h6) (fun q9 => (kf q9) A cy H locs ls cells slots h1 h2 h3 h4 hw hS hl h5 h6)
theorem ok_icmp_lt {X : Xt} {cc : ByteArray} {own : String} {nL f L cb sb pc n : Nat} {lv : List (Nat × Value)} {st : List Value} {h : HP} (hc : Cx X cc own nL f L) {x y : Int32} {off : Int} {tgt : Nat} (hd : decode cc pc = .ok (.if_icmp .lt off, 3)) (ht : (pc : Int) + off = (tgt : Int)) (kt : x < y → Ok X cb sb tgt lv st n h) (kf : ¬ x < y → Ok X cb sb (pc + 3) lv st n h) : Ok X cb sb pc lv (.int y :: .int x :: st) n h := by
  obtain ⟨p, l, e, R, s, m, args, below, meth, c, D, bs, A0, n0, Q⟩ := X
  obtain ⟨hx, hb, hown, hts, hml, hRf, hRl, hF, htr, hlk, hbs⟩ := hc
  intro A cy H locs ls cells slots h1 h2 h3 h4 hw hS hl h5 h6
  exact lv_icmp_lt hx hb hd ht (fun q9 => (kt q9) A cy H locs ls cells slots h1 h2 h3 h4 hw hS hl h5 h6) (fun q9 => (kf q9) A cy H locs ls cells slots h1 h2 h3 h4 hw hS hl h5 h6)
theorem ok_icmp_ge {X : Xt} {cc : ByteArray} {own : String} {nL f L cb sb pc n : Nat} {lv : List (Nat × Value)} {st : List Value} {h : HP} (hc : Cx X cc own nL f L) {x y : Int32} {off : Int} {tgt : Nat} (hd : decode cc pc = .ok (.if_icmp .ge off, 3)) (ht : (pc : Int) + off = (tgt : Int)) (kt : y ≤ x → Ok X cb sb tgt lv st n h) (kf : ¬ y ≤ x → Ok X cb sb (pc + 3) lv st n h) : Ok X cb sb pc lv (.int y :: .int x :: st) n h := by
  obtain ⟨p, l, e, R, s, m, args, below, meth, c, D, bs, A0, n0, Q⟩ := X
  obtain ⟨hx, hb, hown, hts, hml, hRf, hRl, hF, htr, hlk, hbs⟩ := hc
  intro A cy H locs ls cells slots h1 h2 h3 h4 hw hS hl h5 h6
  exact lv_icmp_ge hx hb hd ht (fun q9 => (kt q9) A cy H locs ls cells slots h1 h2 h3 h4 hw hS hl h5 h6) (fun q9 => (kf q9) A cy H locs ls cells slots h1 h2 h3 h4 hw hS hl h5 h6)
theorem ok_icmp_gt {X : Xt} {cc : ByteArray} {own : String} {nL f L cb sb pc n : Nat} {lv : List (Nat × Value)} {st : List Value} {h : HP} (hc : Cx X cc own nL f L) {x y : Int32} {off : Int} {tgt : Nat} (hd : decode cc pc = .ok (.if_icmp .gt off, 3)) (ht : (pc : Int) + off = (tgt : Int)) (kt : y < x → Ok X cb sb tgt lv st n h) (kf : ¬ y < x → Ok X cb sb (pc + 3) lv st n h) : Ok X cb sb pc lv (.int y :: .int x :: st) n h := by
  obtain ⟨p, l, e, R, s, m, args, below, meth, c, D, bs, A0, n0, Q⟩ := X
  obtain ⟨hx, hb, hown, hts, hml, hRf, hRl, hF, htr, hlk, hbs⟩ := hc
  intro A cy H locs ls cells slots h1 h2 h3 h4 hw hS hl h5 h6
  exact lv_icmp_gt hx hb hd ht (fun q9 => (kt q9) A cy H locs ls cells slots h1 h2 h3 h4 hw hS hl h5 h6) (fun q9 => (kf q9) A cy H locs ls cells slots h1 h2 h3 h4 hw hS hl h5 h6)
theorem ok_icmp_le {X : Xt} {cc : ByteArray} {own : String} {nL f L cb sb pc n : Nat} {lv : List (Nat × Value)} {st : List Value} {h : HP} (hc : Cx X cc own nL f L) {x y : Int32} {off : Int} {tgt : Nat} (hd : decode cc pc = .ok (.if_icmp .le off, 3)) (ht : (pc : Int) + off = (tgt : Int)) (kt : x ≤ y → Ok X cb sb tgt lv st n h) (kf : ¬ x ≤ y → Ok X cb sb (pc + 3) lv st n h) : Ok X cb sb pc lv (.int y :: .int x :: st) n h := by
  obtain ⟨p, l, e, R, s, m, args, below, meth, c, D, bs, A0, n0, Q⟩ := X
  obtain ⟨hx, hb, hown, hts, hml, hRf, hRl, hF, htr, hlk, hbs⟩ := hc
  intro A cy H locs ls cells slots h1 h2 h3 h4 hw hS hl h5 h6
  exact lv_icmp_le hx hb hd ht (fun q9 => (kt q9) A cy H locs ls cells slots h1 h2 h3 h4 hw hS hl h5 h6) (fun q9 => (kf q9) A cy H locs ls cells slots h1 h2 h3 h4 hw hS hl h5 h6)
theorem ok_goto {X : Xt} {cc : ByteArray} {own : String} {nL f L cb sb pc n : Nat} {lv : List (Nat × Value)} {st : List Value} {h : HP} (hc : Cx X cc own nL f L) {off : Int} {tgt : Nat} (hd : decode cc pc = .ok (.goto off, 3)) (ht : (pc : Int) + off = (tgt : Int)) (k : Ok X cb sb tgt lv st n h) : Ok X cb sb pc lv st n h := by
  obtain ⟨p, l, e, R, s, m, args, below, meth, c, D, bs, A0, n0, Q⟩ := X
  obtain ⟨hx, hb, hown, hts, hml, hRf, hRl, hF, htr, hlk, hbs⟩ := hc
  intro A cy H locs ls cells slots h1 h2 h3 h4 hw hS hl h5 h6
  exact lv_goto hx hb hd ht (k A cy H locs ls cells slots h1 h2 h3 h4 hw hS hl h5 h6)
theorem ok_tableIn {X : Xt} {cc : ByteArray} {own : String} {nL f L cb sb pc n : Nat} {lv : List (Nat × Value)} {st : List Value} {h : HP} (hc : Cx X cc own nL f L) {dflt lo hi : Int} {offs : Array Int} {len : Nat} {x : Int32} {off : Int} {tgt : Nat} (hd : decode cc pc = .ok (.tableswitch dflt lo hi offs, len)) (g1 : ¬ x.toInt < lo) (g2 : ¬ hi < x.toInt) (ho : offs[(x.toInt - lo).toNat]? = some off) (ht : (pc : Int) + off = (tgt : Int)) (k : Ok X cb sb tgt lv st n h) : Ok X cb sb pc lv (.int x :: st) n h := by
  obtain ⟨p, l, e, R, s, m, args, below, meth, c, D, bs, A0, n0, Q⟩ := X
  obtain ⟨hx, hb, hown, hts, hml, hRf, hRl, hF, htr, hlk, hbs⟩ := hc
  intro A cy H locs ls cells slots h1 h2 h3 h4 hw hS hl h5 h6
  exact lv_tableIn hx hb hd g1 g2 ho ht (k A cy H locs ls cells slots h1 h2 h3 h4 hw hS hl h5 h6)
theorem ok_tableOut {X : Xt} {cc : ByteArray} {own : String} {nL f L cb sb pc n : Nat} {lv : List (Nat × Value)} {st : List Value} {h : HP} (hc : Cx X cc own nL f L) {dflt lo hi : Int} {offs : Array Int} {len : Nat} {x : Int32} {tgt : Nat} (hd : decode cc pc = .ok (.tableswitch dflt lo hi offs, len)) (g1 : x.toInt < lo ∨ hi < x.toInt) (ht : (pc : Int) + dflt = (tgt : Int)) (k : Ok X cb sb tgt lv st n h) : Ok X cb sb pc lv (.int x :: st) n h := by
  obtain ⟨p, l, e, R, s, m, args, below, meth, c, D, bs, A0, n0, Q⟩ := X
  obtain ⟨hx, hb, hown, hts, hml, hRf, hRl, hF, htr, hlk, hbs⟩ := hc
  intro A cy H locs ls cells slots h1 h2 h3 h4 hw hS hl h5 h6
  exact lv_tableOut hx hb hd g1 ht (k A cy H locs ls cells slots h1 h2 h3 h4 hw hS hl h5 h6)
theorem ok_lookup {X : Xt} {cc : ByteArray} {own : String} {nL f L cb sb pc n : Nat} {lv : List (Nat × Value)} {st : List Value} {h : HP} (hc : Cx X cc own nL f L) {dflt : Int} {ps : Array (Int × Int)} {len : Nat} {x : Int32} {off : Int} {tgt : Nat} (hd : decode cc pc = .ok (.lookupswitch dflt ps, len)) (hp : (ps.toList.zip (ps.toList.drop 1)).all (fun (a, next) => a.1 < next.1) = true) (ho : Op.lookupswitch.offset ps.toList dflt x.toInt = off) (ht : (pc : Int) + off = (tgt : Int)) (k : Ok X cb sb tgt lv st n h) : Ok X cb sb pc lv (.int x :: st) n h := by
  obtain ⟨p, l, e, R, s, m, args, below, meth, c, D, bs, A0, n0, Q⟩ := X
  obtain ⟨hx, hb, hown, hts, hml, hRf, hRl, hF, htr, hlk, hbs⟩ := hc
  intro A cy H locs ls cells slots h1 h2 h3 h4 hw hS hl h5 h6
  exact lv_lookup hx hb hd hp ho ht (k A cy H locs ls cells slots h1 h2 h3 h4 hw hS hl h5 h6)
theorem ok_lv {X : Xt} {cb sb pc n : Nat} {lv lv' : List (Nat × Value)} {st : List Value} {h : HP} (ks : List Nat) (hks : lv_pick lv ks = lv') (k : Ok X cb sb pc lv' st n h) : Ok X cb sb pc lv st n h := by
  obtain ⟨p, l, e, R, s, m, args, below, meth, c, D, bs, A0, n0, Q⟩ := X
  intro A cy H locs ls cells slots h1 h2 h3 h4 hw hS hl h5 h6
  subst hks
  exact k A cy H locs ls cells slots h1 h2 h3 h4 hw hS (lv_sub hl ks (pick_map A lv ks)) h5 h6
def FL (own : String) (idx ci k : Nat) (ty : FieldType) (fin : Bool) : Prop := ∃ (C : String) (T : u_T) (N : Nat) (ty0 : Nat → FieldType), vwCl[ci]? = some (C, T, N) ∧ (∀ w ∈ u_ws C T N, w ∈ lw_all) ∧ k < N ∧ Cond.fieldLink own idx C (T k).2.1 (T k).2.2.1 ∈ lw_all ∧ (T k).1 = C ∧ (∀ j, j < N → parseFieldDescriptor (T j).2.2.1 = some (ty0 j)) ∧ (∀ a, a < N → ∀ b, b < N → a ≠ b → (T a).2.1 ≠ (T b).2.1) ∧ ty0 k = ty ∧ (T k).2.2.2 = fin
theorem ok_get {X : Xt} {cc : ByteArray} {own : String} {nL f L cb sb pc n : Nat} {lv : List (Nat × Value)} {st : List Value} {h : HP} (hc : Cx X cc own nL f L) {idx ci k9 a : Nat} {ty : FieldType} {fin : Bool} {fs : List Value} {v : Value} (hF9 : FL own idx ci k9 ty fin) (hd : decode cc pc = .ok (.getfield idx, 3)) (ha : a < n) (he : h a = .inl (ci, fs)) (hv : fs[k9]? = some v) (k : Ok X cb sb (pc + 3) lv (v :: st) n h) : Ok X cb sb pc lv (.ref a :: st) n h := by
  obtain ⟨p, l, e, R, s, m, args, below, meth, c, D, bs, A0, n0, Q⟩ := X
  obtain ⟨hx, hb, hown, hts, hml, hRf, hRl, hF, htr, hlk, hbs⟩ := hc
  intro A cy H locs ls cells slots h1 h2 h3 h4 hw hS hl h5 h6
  obtain ⟨C, T, N, ty0, f1, f2, f3, f4, f5, f6, f7, f8, f9⟩ := hF9
  refine va_get (D := D) (tys := []) (ws := lst A cy n h) (ci := ci) (fs := fs.map (trV A)) (v := trV A v) hx hb hts f2 hown hw.2.1 hw.1 a ((lst_get ha).trans (by rw [he]; rfl)) f1 k9 f3 (hts _ f4) (fun _ q => by rw [f5] at q; exact q) (by rw [List.getElem?_map, hv]; rfl) hd ?_
  exact k A cy H locs ls cells slots h1 h2 h3 h4 hw hS hl h5 h6
theorem ok_put {X : Xt} {cc : ByteArray} {own : String} {nL f L cb sb pc n : Nat} {lv : List (Nat × Value)} {st : List Value} {h : HP} (hc : Cx X cc own nL f L) {idx ci k9 a : Nat} {ty : FieldType} {fs : List Value} {v : Value} (hF9 : FL own idx ci k9 ty false) (hd : decode cc pc = .ok (.putfield idx, 3)) (ha : a < n) (he : h a = .inl (ci, fs)) (hlen : k9 < fs.length) (hn : ∀ B : Nat → Nat, narrow ty (trV B v) = trV B v) (hft : ∀ B : Nat → Nat, fits ty (trV B v) = true) (k : Ok X cb sb (pc + 3) lv st n (va_up h a (.inl (ci, fs.set k9 v)))) : Ok X cb sb pc lv (v :: .ref a :: st) n h := by
  obtain ⟨p, l, e, R, s, m, args, below, meth, c, D, bs, A0, n0, Q⟩ := X
  obtain ⟨hx, hb, hown, hts, hml, hRf, hRl, hF, htr, hlk, hbs⟩ := hc
  intro A cy H locs ls cells slots h1 h2 h3 h4 hw hS hl h5 h6
  obtain ⟨C, T, N, ty0, f1, f2, f3, f4, f5, f6, f7, f8, f9⟩ := hF9
  refine va_put (D := D) (tys := []) (ws := lst A cy n h) (A := fun q => bs ≤ q) (H0 := s.heap) (ci := ci) (fs := fs.map (trV A)) (v := trV A v) (ty := ty) hx hb hts f2 ty0 f6 f7 hown hw.2.1 hw.1 hw.D hS a ((lst_get ha).trans (by rw [he]; rfl)) f1 k9 f3 (hts _ f4) (fun _ q => by rw [f5] at q; exact q) f9 ((f6 k9 f3).trans (by rw [f8])) (hn A) (hft A) (by rw [List.length_map]; exact hlen) hd (fun H1 locs1 hP1 _ hS1 => ?_)
  have hP2 : va_P D vwCl ((lst A cy n h).set a (A a, trE A (cy a) (.inl (ci, fs.set k9 v)))) H1 := by
    have q : (.inr (ci, (fs.map (trV A)).set k9 (trV A v)) : va_E) = trE A (cy a) (.inl (ci, fs.set k9 v)) := by
      show _ = Sum.inr (ci, (fs.set k9 v).map (trV A))
      rw [List.map_set]
    rw [← q]
    exact hP1
  exact k A cy H1 locs1 ls cells slots h1 h2 h3 h4 (hw.put (by rw [he]; rfl) hP2) hS1 hl h5 h6
theorem ok_iald {X : Xt} {cc : ByteArray} {own : String} {nL f L cb sb pc n : Nat} {lv : List (Nat × Value)} {st : List Value} {h : HP} (hc : Cx X cc own nL f L) {a len : Nat} {f : Nat → Int32} {i : Int32} (hd : decode cc pc = .ok (.iaload, 1)) (ha : a < n) (he : h a = .inr (0, len, .inl f)) (hin : vp_in i len) (k : Ok X cb sb (pc + 1) lv (.int (f i.toNatClampNeg) :: st) n h) : Ok X cb sb pc lv (.int i :: .ref a :: st) n h := by
  obtain ⟨p, l, e, R, s, m, args, below, meth, c, D, bs, A0, n0, Q⟩ := X
  obtain ⟨hx, hb, hown, hts, hml, hRf, hRl, hF, htr, hlk, hbs⟩ := hc
  intro A cy H locs ls cells slots h1 h2 h3 h4 hw hS hl h5 h6
  refine va_iald (D := D) (tys := [(cy a, .int)]) (ws := lst A cy n h) (cA := cy a) (n := len) (f := f) hx hb (hw.K1 ha (by rw [he]; rfl)) hw.1 a 0 ((lst_get ha).trans (by rw [he]; rfl)) rfl hin hd ?_
  exact k A cy H locs ls cells slots h1 h2 h3 h4 hw hS hl h5 h6
theorem ok_cald {X : Xt} {cc : ByteArray} {own : String} {nL f L cb sb pc n : Nat} {lv : List (Nat × Value)} {st : List Value} {h : HP} (hc : Cx X cc own nL f L) {a len : Nat} {f : Nat → Int32} {i : Int32} (hd : decode cc pc = .ok (.caload, 1)) (ha : a < n) (he : h a = .inr (2, len, .inl f)) (hin : vp_in i len) (k : Ok X cb sb (pc + 1) lv (.int (f i.toNatClampNeg) :: st) n h) : Ok X cb sb pc lv (.int i :: .ref a :: st) n h := by
  obtain ⟨p, l, e, R, s, m, args, below, meth, c, D, bs, A0, n0, Q⟩ := X
  obtain ⟨hx, hb, hown, hts, hml, hRf, hRl, hF, htr, hlk, hbs⟩ := hc
  intro A cy H locs ls cells slots h1 h2 h3 h4 hw hS hl h5 h6
  refine va_cald (D := D) (tys := [(cy a, .char)]) (ws := lst A cy n h) (cA := cy a) (n := len) (f := f) hx hb (hw.K1 ha (by rw [he]; rfl)) hw.1 a 0 ((lst_get ha).trans (by rw [he]; rfl)) rfl hin hd ?_
  exact k A cy H locs ls cells slots h1 h2 h3 h4 hw hS hl h5 h6
theorem ok_lald {X : Xt} {cc : ByteArray} {own : String} {nL f L cb sb pc n : Nat} {lv : List (Nat × Value)} {st : List Value} {h : HP} (hc : Cx X cc own nL f L) {a len : Nat} {f : Nat → Int64} {i : Int32} (hd : decode cc pc = .ok (.laload, 1)) (ha : a < n) (he : h a = .inr (1, len, .inr (.inl f))) (hin : vp_in i len) (k : Ok X cb sb (pc + 1) lv (.long (f i.toNatClampNeg) :: st) n h) : Ok X cb sb pc lv (.int i :: .ref a :: st) n h := by
  obtain ⟨p, l, e, R, s, m, args, below, meth, c, D, bs, A0, n0, Q⟩ := X
  obtain ⟨hx, hb, hown, hts, hml, hRf, hRl, hF, htr, hlk, hbs⟩ := hc
  intro A cy H locs ls cells slots h1 h2 h3 h4 hw hS hl h5 h6
  refine va_lald (D := D) (tys := [(cy a, .long)]) (ws := lst A cy n h) (cA := cy a) (n := len) (f := f) hx hb (hw.K1 ha (by rw [he]; rfl)) hw.1 a 0 ((lst_get ha).trans (by rw [he]; rfl)) rfl hin hd ?_
  exact k A cy H locs ls cells slots h1 h2 h3 h4 hw hS hl h5 h6
theorem ok_iast {X : Xt} {cc : ByteArray} {own : String} {nL f L cb sb pc n : Nat} {lv : List (Nat × Value)} {st : List Value} {h : HP} (hc : Cx X cc own nL f L) {a len : Nat} {f : Nat → Int32} {i : Int32} {x : Int32} (hd : decode cc pc = .ok (.iastore, 1)) (ha : a < n) (he : h a = .inr (0, len, .inl f)) (hin : vp_in i len) (k : Ok X cb sb (pc + 1) lv st n (va_up h a (.inr (0, len, .inl (upd f i.toNatClampNeg x))))) : Ok X cb sb pc lv (.int x :: .int i :: .ref a :: st) n h := by
  obtain ⟨p, l, e, R, s, m, args, below, meth, c, D, bs, A0, n0, Q⟩ := X
  obtain ⟨hx, hb, hown, hts, hml, hRf, hRl, hF, htr, hlk, hbs⟩ := hc
  intro A cy H locs ls cells slots h1 h2 h3 h4 hw hS hl h5 h6
  refine va_iast (D := D) (tys := [(cy a, .int)]) (ws := lst A cy n h) (A := fun q => bs ≤ q) (H0 := s.heap) (cA := cy a) (n := len) (f := f) hx hb (hw.K1 ha (by rw [he]; rfl)) hw.1 hw.D hS a 0 ((lst_get ha).trans (by rw [he]; rfl)) rfl hin hd (fun H1 locs1 hP1 _ hS1 => ?_)
  exact k A cy H1 locs1 ls cells slots h1 h2 h3 h4 (hw.put (by rw [he]; rfl) hP1) hS1 hl h5 h6
theorem ok_cast {X : Xt} {cc : ByteArray} {own : String} {nL f L cb sb pc n : Nat} {lv : List (Nat × Value)} {st : List Value} {h : HP} (hc : Cx X cc own nL f L) {a len : Nat} {f : Nat → Int32} {i : Int32} {x : Int32} (hd : decode cc pc = .ok (.castore, 1)) (ha : a < n) (he : h a = .inr (2, len, .inl f)) (hin : vp_in i len) (k : Ok X cb sb (pc + 1) lv st n (va_up h a (.inr (2, len, .inl (upd f i.toNatClampNeg (vp_nar .char x)))))) : Ok X cb sb pc lv (.int x :: .int i :: .ref a :: st) n h := by
  obtain ⟨p, l, e, R, s, m, args, below, meth, c, D, bs, A0, n0, Q⟩ := X
  obtain ⟨hx, hb, hown, hts, hml, hRf, hRl, hF, htr, hlk, hbs⟩ := hc
  intro A cy H locs ls cells slots h1 h2 h3 h4 hw hS hl h5 h6
  refine va_cast (D := D) (tys := [(cy a, .char)]) (ws := lst A cy n h) (A := fun q => bs ≤ q) (H0 := s.heap) (cA := cy a) (n := len) (f := f) hx hb (hw.K1 ha (by rw [he]; rfl)) hw.1 hw.D hS a 0 ((lst_get ha).trans (by rw [he]; rfl)) rfl hin hd (fun H1 locs1 hP1 _ hS1 => ?_)
  exact k A cy H1 locs1 ls cells slots h1 h2 h3 h4 (hw.put (by rw [he]; rfl) hP1) hS1 hl h5 h6
theorem ok_last {X : Xt} {cc : ByteArray} {own : String} {nL f L cb sb pc n : Nat} {lv : List (Nat × Value)} {st : List Value} {h : HP} (hc : Cx X cc own nL f L) {a len : Nat} {f : Nat → Int64} {i : Int32} {x : Int64} (hd : decode cc pc = .ok (.lastore, 1)) (ha : a < n) (he : h a = .inr (1, len, .inr (.inl f))) (hin : vp_in i len) (k : Ok X cb sb (pc + 1) lv st n (va_up h a (.inr (1, len, .inr (.inl (vp_updL f i.toNatClampNeg x)))))) : Ok X cb sb pc lv (.long x :: .int i :: .ref a :: st) n h := by
  obtain ⟨p, l, e, R, s, m, args, below, meth, c, D, bs, A0, n0, Q⟩ := X
  obtain ⟨hx, hb, hown, hts, hml, hRf, hRl, hF, htr, hlk, hbs⟩ := hc
  intro A cy H locs ls cells slots h1 h2 h3 h4 hw hS hl h5 h6
  refine va_last (D := D) (tys := [(cy a, .long)]) (ws := lst A cy n h) (A := fun q => bs ≤ q) (H0 := s.heap) (cA := cy a) (n := len) (f := f) hx hb (hw.K1 ha (by rw [he]; rfl)) hw.1 hw.D hS a 0 ((lst_get ha).trans (by rw [he]; rfl)) rfl hin hd (fun H1 locs1 hP1 _ hS1 => ?_)
  exact k A cy H1 locs1 ls cells slots h1 h2 h3 h4 (hw.put (by rw [he]; rfl) hP1) hS1 hl h5 h6
theorem ok_alen {X : Xt} {cc : ByteArray} {own : String} {nL f L cb sb pc n : Nat} {lv : List (Nat × Value)} {st : List Value} {h : HP} (hc : Cx X cc own nL f L) {a t len : Nat} {f : (Nat → Int32) ⊕ (Nat → Int64) ⊕ (Nat → Option Nat)} {v : Int32} (hd : decode cc pc = .ok (.arraylength, 1)) (ha : a < n) (he : h a = .inr (t, len, f)) (hv : Int32.ofNat len = v) (k : Ok X cb sb (pc + 1) lv (.int v :: st) n h) : Ok X cb sb pc lv (.ref a :: st) n h := by
  obtain ⟨p, l, e, R, s, m, args, below, meth, c, D, bs, A0, n0, Q⟩ := X
  obtain ⟨hx, hb, hown, hts, hml, hRf, hRl, hF, htr, hlk, hbs⟩ := hc
  intro A cy H locs ls cells slots h1 h2 h3 h4 hw hS hl h5 h6
  rcases f with f | f | f
  · exact va_alen (D := D) (tys := [(cy a, tyN t)]) (ws := lst A cy n h) (cA := cy a) (x := (len, .inl f)) hx hb (hw.K1 ha (by rw [he]; rfl)) hw.1 a 0 ((lst_get ha).trans (by rw [he]; rfl)) rfl hv hd (k A cy H locs ls cells slots h1 h2 h3 h4 hw hS hl h5 h6)
  · exact va_alen (D := D) (tys := [(cy a, tyN t)]) (ws := lst A cy n h) (cA := cy a) (x := (len, .inr (.inl f))) hx hb (hw.K1 ha (by rw [he]; rfl)) hw.1 a 0 ((lst_get ha).trans (by rw [he]; rfl)) rfl hv hd (k A cy H locs ls cells slots h1 h2 h3 h4 hw hS hl h5 h6)
  · exact va_alen (D := D) (tys := [(cy a, tyN t)]) (ws := lst A cy n h) (cA := cy a) (x := (len, .inr (.inr (.inr (.inr (fun j => (f j).map A)))))) hx hb (hw.K1 ha (by rw [he]; rfl)) hw.1 a 0 ((lst_get ha).trans (by rw [he]; rfl)) rfl hv hd (k A cy H locs ls cells slots h1 h2 h3 h4 hw hS hl h5 h6)
theorem ok_gets {X : Xt} {cc : ByteArray} {own : String} {nL f L cb sb pc n : Nat} {lv : List (Nat × Value)} {st : List Value} {h : HP} (hc : Cx X cc own nL f L) {idx : Nat} (hl9 : Cond.fieldLink own idx "AmplifierDesk" "POWERS_OF_THREE" "[I" ∈ lw_all) (hd : decode cc pc = .ok (.getstatic idx, 3)) (k : Ok X cb sb (pc + 3) lv (.ref SA :: st) n h) : Ok X cb sb pc lv st n h := by
  obtain ⟨p, l, e, R, s, m, args, below, meth, c, D, bs, A0, n0, Q⟩ := X
  obtain ⟨hx, hb, hown, hts, hml, hRf, hRl, hF, htr, hlk, hbs⟩ := hc
  intro A cy H locs ls cells slots h1 h2 h3 h4 hw hS hl h5 h6
  have hA : A SA = A0 SA := h1 SA (Or.inr (Nat.le_refl _))
  refine va_gets (v := .ref (A SA)) (A := fun q => bs ≤ q) hx hb (by rw [hA]; exact hF.1) hS hown (hts _ hl9) (fun _ q => q) hd ?_
  exact k A cy H locs ls cells slots h1 h2 h3 h4 hw hS hl h5 h6
theorem ok_ti {X : Xt} {cc : ByteArray} {own : String} {nL f L cb sb pc n : Nat} {lv : List (Nat × Value)} {st : List Value} {h : HP} (hc : Cx X cc own nL f L) {i : Int32} {v : Value} (hd : decode cc pc = .ok (.iaload, 1)) (hin : vp_in i 4) (hv : .int ([1, 3, 9, 27].getD i.toNatClampNeg 0) = v) (k : Ok X cb sb (pc + 1) lv (v :: st) n h) : Ok X cb sb pc lv (.int i :: .ref SA :: st) n h := by
  obtain ⟨p, l, e, R, s, m, args, below, meth, c, D, bs, A0, n0, Q⟩ := X
  obtain ⟨hx, hb, hown, hts, hml, hRf, hRl, hF, htr, hlk, hbs⟩ := hc
  intro A cy H locs ls cells slots h1 h2 h3 h4 hw hS hl h5 h6
  have hA : A SA = A0 SA := h1 SA (Or.inr (Nat.le_refl _))
  subst hv
  have k2 := k A cy H locs ls cells slots h1 h2 h3 h4 hw hS hl h5 h6
  rw [show List.map (trV A) (.int i :: .ref SA :: st) = .int i :: .ref (A SA) :: st.map (trV A) from rfl]
  exact va_ti (N := 4) (f := c_P3) (A := fun q => bs ≤ q) (t := A SA) hx hb (by rw [hA]; exact hF.2.1) hS hin rfl hd k2
theorem ok_iret {X : Xt} {cc : ByteArray} {own : String} {nL f L cb sb pc n : Nat} {lv : List (Nat × Value)} {st : List Value} {h : HP} (hc : Cx X cc own nL f L) {K9 : KT} {x : Int32} (hr9 : CxR X (some .int) K9) (hd : decode cc pc = .ok (.ireturn, 1)) (k : K9 (.inl (some (.int x))) n h) : Ok X cb sb pc lv [.int x] n h := by
  obtain ⟨p, l, e, R, s, m, args, below, meth, c, D, bs, A0, n0, Q⟩ := X
  obtain ⟨hx, hb, hown, hts, hml, hRf, hRl, hF, htr, hlk, hbs⟩ := hc
  intro A cy H locs ls cells slots h1 h2 h3 h4 hw hS hl h5 h6
  obtain ⟨r1, rfl, r3⟩ := hr9
  refine vx_ret ?_
  refine W.widen (k := R.cells) (n := R.slots) (by omega) (by omega) ?_
  exact W.iret hx hb r1 (fun t ht hW => ⟨A, cy, (some (.int x)), n, h, rfl, k, h1, h2, h3, h4, by rw [ht]; exact hw.moved hW.alike, hS.F ht⟩) hS.2.2 hd hlk
theorem ok_zret {X : Xt} {cc : ByteArray} {own : String} {nL f L cb sb pc n : Nat} {lv : List (Nat × Value)} {st : List Value} {h : HP} (hc : Cx X cc own nL f L) {K9 : KT} {x : Int32} (hz : narrow .boolean (.int x) = .int x) (hr9 : CxR X (some .boolean) K9) (hd : decode cc pc = .ok (.ireturn, 1)) (k : K9 (.inl (some (.int x))) n h) : Ok X cb sb pc lv [.int x] n h := by
  obtain ⟨p, l, e, R, s, m, args, below, meth, c, D, bs, A0, n0, Q⟩ := X
  obtain ⟨hx, hb, hown, hts, hml, hRf, hRl, hF, htr, hlk, hbs⟩ := hc
  intro A cy H locs ls cells slots h1 h2 h3 h4 hw hS hl h5 h6
  obtain ⟨r1, rfl, r3⟩ := hr9
  refine vx_ret ?_
  refine W.widen (k := R.cells) (n := R.slots) (by omega) (by omega) ?_
  exact W.zret (ty := .boolean) hx hb r1 hz (fun t ht hW => ⟨A, cy, (some (.int x)), n, h, rfl, k, h1, h2, h3, h4, by rw [ht]; exact hw.moved hW.alike, hS.F ht⟩) hS.2.2 hd hlk
theorem ok_lret {X : Xt} {cc : ByteArray} {own : String} {nL f L cb sb pc n : Nat} {lv : List (Nat × Value)} {st : List Value} {h : HP} (hc : Cx X cc own nL f L) {K9 : KT} {x : Int64} (hr9 : CxR X (some .long) K9) (hd : decode cc pc = .ok (.lreturn, 1)) (k : K9 (.inl (some (.long x))) n h) : Ok X cb sb pc lv [.long x] n h := by
  obtain ⟨p, l, e, R, s, m, args, below, meth, c, D, bs, A0, n0, Q⟩ := X
  obtain ⟨hx, hb, hown, hts, hml, hRf, hRl, hF, htr, hlk, hbs⟩ := hc
  intro A cy H locs ls cells slots h1 h2 h3 h4 hw hS hl h5 h6
  obtain ⟨r1, rfl, r3⟩ := hr9
  refine vx_ret ?_
  refine W.widen (k := R.cells) (n := R.slots) (by omega) (by omega) ?_
  exact W.lret hx hb r1 (fun t ht hW => ⟨A, cy, (some (.long x)), n, h, rfl, k, h1, h2, h3, h4, by rw [ht]; exact hw.moved hW.alike, hS.F ht⟩) hS.2.2 hd hlk
theorem ok_dret {X : Xt} {cc : ByteArray} {own : String} {nL f L cb sb pc n : Nat} {lv : List (Nat × Value)} {st : List Value} {h : HP} (hc : Cx X cc own nL f L) {K9 : KT} {x : UInt64} (hr9 : CxR X (some .double) K9) (hd : decode cc pc = .ok (.dreturn, 1)) (k : K9 (.inl (some (.double x))) n h) : Ok X cb sb pc lv [.double x] n h := by
  obtain ⟨p, l, e, R, s, m, args, below, meth, c, D, bs, A0, n0, Q⟩ := X
  obtain ⟨hx, hb, hown, hts, hml, hRf, hRl, hF, htr, hlk, hbs⟩ := hc
  intro A cy H locs ls cells slots h1 h2 h3 h4 hw hS hl h5 h6
  obtain ⟨r1, rfl, r3⟩ := hr9
  refine vx_ret ?_
  refine W.widen (k := R.cells) (n := R.slots) (by omega) (by omega) ?_
  exact W.dret hx hb r1 (fun t ht hW => ⟨A, cy, (some (.double x)), n, h, rfl, k, h1, h2, h3, h4, by rw [ht]; exact hw.moved hW.alike, hS.F ht⟩) hS.2.2 hd hlk
theorem ok_vret {X : Xt} {cc : ByteArray} {own : String} {nL f L cb sb pc n : Nat} {lv : List (Nat × Value)} {st : List Value} {h : HP} (hc : Cx X cc own nL f L) {K9 : KT} (hr9 : CxR X none K9) (hd : decode cc pc = .ok (.return_, 1)) (k : K9 (.inl none) n h) : Ok X cb sb pc lv [] n h := by
  obtain ⟨p, l, e, R, s, m, args, below, meth, c, D, bs, A0, n0, Q⟩ := X
  obtain ⟨hx, hb, hown, hts, hml, hRf, hRl, hF, htr, hlk, hbs⟩ := hc
  intro A cy H locs ls cells slots h1 h2 h3 h4 hw hS hl h5 h6
  obtain ⟨r1, rfl, r3⟩ := hr9
  refine vx_ret ?_
  refine W.widen (k := R.cells) (n := R.slots) (by omega) (by omega) ?_
  exact W.vret hx hb r1 (fun t ht hW => ⟨A, cy, none, n, h, rfl, k, h1, h2, h3, h4, by rw [ht]; exact hw.moved hW.alike, hS.F ht⟩) hS.2.2 hd hlk
theorem ok_aret {X : Xt} {cc : ByteArray} {own : String} {nL f L cb sb pc n : Nat} {lv : List (Nat × Value)} {st : List Value} {h : HP} (hc : Cx X cc own nL f L) {K9 : KT} {x : Nat} {C : String} (hr9 : CxR X (some (.object C)) K9) (hd : decode cc pc = .ok (.areturn, 1)) (k : K9 (.inl (some (.ref x))) n h) : Ok X cb sb pc lv [.ref x] n h := by
  obtain ⟨p, l, e, R, s, m, args, below, meth, c, D, bs, A0, n0, Q⟩ := X
  obtain ⟨hx, hb, hown, hts, hml, hRf, hRl, hF, htr, hlk, hbs⟩ := hc
  intro A cy H locs ls cells slots h1 h2 h3 h4 hw hS hl h5 h6
  obtain ⟨r1, rfl, r3⟩ := hr9
  refine vx_ret ?_
  refine W.widen (k := R.cells) (n := R.slots) (by omega) (by omega) ?_
  exact W.aret hx hb r1 (Or.inl ⟨C, rfl⟩) (Or.inr ⟨A x, rfl⟩) (fun t ht hW => ⟨A, cy, some (.ref x), n, h, rfl, k, h1, h2, h3, h4, by rw [ht]; exact hw.moved hW.alike, hS.F ht⟩) hS.2.2 hd hlk
end
section
/-! part 06: contracts of methods (Sp) and the rules of calls -/
/-- E was thrown at pc -/
def OkT (X : Xt) (cb sb pc : Nat) (lv : List (Nat × Value)) (E : String) (n : Nat) (h : HP) : Prop := match X with
  | (p, l, e, R, s, m, args, below, meth, c, D, bs, A0, n0, Q) =>
    ∀ (A : Nat → Nat) (cy : Nat → ClassId) (H : Heap) (locs : List Loc) (ls : Array Slot) (cells slots : Nat) (rest : List Value) (q : Addr) (ce : Cell),
      (∀ i, i < n0 ∨ SA ≤ i → A i = A0 i) → n0 ≤ n → n ≤ SA → (n = n0 → A = A0) → Wd D A cy bs n h s H → va_S (fun q => bs ≤ q) s.heap H locs → lv_has ls c.maxLocals (lv.map fun q => (q.1, trV A q.2)) →
      cells + cb ≤ R.cells → slots + sb ≤ R.slots → H[q]? = some ce → ce.vm = .none → s.vm.findClass E = some ce.cls → vx_W p l e R s m args below meth c H locs cells slots Q (F0 m pc ls rest) q
/-- what comes behind a call that makes no places -/
def kc (X : Xt) (cb sb pc : Nat) (lv : List (Nat × Value)) (st : List Value) (n : Nat) : KT := fun r n' h' => n' = n ∧ match r with
  | .inl v => Ok X cb sb (pc + 3) lv (v.toList ++ st) n h'
  | .inr E => OkT X cb sb pc lv E n h'
def Sp (y : MethodName) (cc : ByteArray) (nL : Nat) (ret : Option FieldType) (f L mc ms : Nat) (spec : List Value → Nat → HP → KT → Prop) : Prop :=
  ∀ (l : Launch) (D : va_G) (bs : Nat) (A : Nat → Nat) (cy : Nat → ClassId) (args : List Value) (n : Nat) (h : HP) (K : KT), l.stackTraces = false → n ≤ SA → spec args n h K →
    vx_Met l y (.code y cc nL ret :: lw_all) ({ frames := f, cells := mc, slots := ms, locals := L }) (va_Pc (args.map (trV A)) (fun U => Wd D A cy bs n h U U.heap ∧ Fx A bs U U.heap ∧ bs ≤ U.heap.size)) (gQ D bs A n K) (gX D bs A n K) mc ms (fun q => bs ≤ q)
theorem sl_map (A : Nat → Nat) (vs : List Value) : (lg_sl (vs.map (trV A))).length = (lg_sl vs).length := by
  induction vs with
  | nil => rfl
  | cons v vs ih =>
    unfold lg_sl at ih ⊢
    rw [List.map_cons, List.flatMap_cons, List.flatMap_cons, List.length_append, List.length_append, ih, trV_cat]
    split <;> rfl
theorem args_map (A : Nat → Nat) : ∀ (vs : List Value) (i : Nat), lv_args i (vs.map (trV A)) = (lv_args i vs).map fun q => (q.1, trV A q.2)
  | [], _ => rfl
  | v :: vs, i => by
    rw [List.map_cons]
    unfold lv_args
    rw [List.map_cons, trV_cat, args_map A vs]
theorem sp_intro {y : MethodName} {cc : ByteArray} {nL : Nat} {ret : Option FieldType} {f L mc ms : Nat} {spec : List Value → Nat → HP → KT → Prop} (hy : plainName y.cls = true) (hsz : ∀ args n h K, spec args n h K → (lg_sl args).length ≤ nL)
    (body : ∀ (X : Xt) (args : List Value) (n : Nat) (h : HP) (K : KT), Cx X cc y.cls nL f L → CxR X ret K → spec args n h K → Ok X mc ms 0 (lv_args 0 args) [] n h) : Sp y cc nL ret f L mc ms spec := by
  intro l D bs A cy args n h K hst hn hs
  refine vx_ofW (cc := cc) (maxL := nL) (ret := ret) hy rfl ?_
  intro p e s m av below meth c s₁ B hml hno hv
  obtain ⟨hav, hw, hF, hbs⟩ := hv
  have hts := atoms_spec (ws := .code y cc nL ret :: lw_all) B.pre
  have hown : s.vm.findClass y.cls = some m.cls := findClass_of_methodNamed B.named
  have hX := body (p, l, e, { frames := f, cells := mc, slots := ms, locals := L }, s, m, av, below, meth, c, D, bs, A, n, vx_MQ below (gQ D bs A n K) (gX D bs A n K) av s mc ms (fun q => bs ≤ q)) args n h K ⟨B.exec, B.bytes, hown, fun w hw => hts w (List.mem_cons_of_mem _ hw), hml, Nat.le_refl _, Nat.le_refl _, hF, hst, B.notSynchronized, hbs⟩ ⟨B.returns, rfl, hno⟩ hs
  have hl := lv_entry (args.map (trV A)) (n := nL) (by rw [sl_map]; exact hsz args n h K hs)
  rw [args_map] at hl
  rw [hav] at hX ⊢
  rw [lg_entry_eq]
  exact hX A cy s.heap [] _ 0 0 (fun _ _ => rfl) (Nat.le_refl _) hn (fun _ => rfl) hw va_S.rf (by rw [hml]; exact hl) (by simp) (by simp)
theorem blind {D : va_G} {A : Nat → Nat} {cy : Nat → ClassId} {bs n : Nat} {h : HP} {av : List Value} : FrameBlind (va_Pc av (fun U => Wd D A cy bs n h U U.heap ∧ Fx A bs U U.heap ∧ bs ≤ U.heap.size)) := by
  intro a U g mk q
  obtain ⟨q0, q1, q2, q3⟩ := q
  exact ⟨q0, Wd.moved (u := U) (U := U.calling g mk a) (Vm.Alike.refl U.vm) q1, Fx.moved (u := U) (U := U.calling g mk a) (State.WarmedH.refl U) q2, q3⟩
theorem list_opt (A : Nat → Nat) (v : Option Value) (st : List Value) : (v.map (trV A)).toList ++ st.map (trV A) = (v.toList ++ st).map (trV A) := by cases v <;> simp
section RUN
variable {p : Program} {l : Launch} {e : Env} {R : Room} {s : State} {m : MethodId} {args : Array Value} {below : List Frame} {meth : Method} {c : Code} {D : va_G} {bs n0 : Nat} {A0 : Nat → Nat} {Q : State → Prop}
/-- behind a run of a callee that makes no places -/
theorem run_use {cb sb pc n mc ms : Nat} {lv : List (Nat × Value)} {st st0 : List Value} {H : Heap} {locs : List Loc} {ls : Array Slot} {cells slots : Nat} {A : Nat → Nat} {av : Array Value}
    (h1 : ∀ i, i < n0 ∨ SA ≤ i → A i = A0 i) (h2 : n0 ≤ n) (h3 : n ≤ SA) (h4 : n = n0 → A = A0) (hS : va_S (fun q => bs ≤ q) s.heap H locs) (hl : lv_has ls c.maxLocals (lv.map fun q => (q.1, trV A q.2))) (h5 : cells + (cb + mc) ≤ R.cells) (h6 : slots + (sb + ms) ≤ R.slots)
    (hr : vx_Run p l e R s m args below meth c H locs cells slots mc ms (F0 m pc ls st0) (st.map (trV A)) (gQ D bs A n (kc (p, l, e, R, s, m, args, below, meth, c, D, bs, A0, n0, Q) cb sb pc lv st n) av) (gX D bs A n (kc (p, l, e, R, s, m, args, below, meth, c, D, bs, A0, n0, Q) cb sb pc lv st n)) (fun q => bs ≤ q)) :
    W p l e R s m args below meth c H locs cells slots Q (F0 m pc ls st0) := by
  intro T hT Xs
  rcases hr T hT Xs with ⟨v, st₀, t, T', L, g0, X', hL, e1, e2, hq, go⟩ | ⟨q, st₀, t, T', L, E, ce, g0, X', hL, e1, e2, hx, hce, hcv, hcl, go⟩
  · obtain ⟨A', cy', w, n', h', hv, hk, g1, g2, g3, g4, hw', hF⟩ := hq
    obtain ⟨hnn, hk⟩ := hk
    subst hnn
    have hAA : A' = A := g4 rfl
    subst hAA
    cases hv
    obtain ⟨k1, k2, k3⟩ := vx_keep g0 e1 hS (fun _ _ z => z) (fun _ z => z) hL hF
    have hal : s.vm.Alike t.vm := by rw [← e2]; exact X'.warmed.alike
    have hwn : Wd D A' cy' bs n' h' s T'.heap := by rw [e1]; exact hw'.moved hal.symm
    obtain ⟨t2, a1, b1⟩ := hk A' cy' T'.heap (locs ++ L) ls (cells + mc) (slots + ms) h1 h2 h3 h4 hwn k3 hl (by omega) (by omega) T' rfl X'
    refine ⟨t2, go t2 ?_, b1⟩
    show Steps p.tables e below (T'.setTop (F0 m (pc + 3) ls ((w.map (trV A')).toList ++ st.map (trV A')))) t2
    rw [list_opt]
    exact a1
  · obtain ⟨A', cy', n', h', hk, g1, g2, g3, g4, hw', hF⟩ := hx
    obtain ⟨hnn, hk⟩ := hk
    subst hnn
    have hAA : A' = A := g4 rfl
    subst hAA
    obtain ⟨k1, k2, k3⟩ := vx_keep g0 e1 hS (fun _ _ z => z) (fun _ z => z) hL hF
    have hal : s.vm.Alike t.vm := by rw [← e2]; exact X'.warmed.alike
    have hwn : Wd D A' cy' bs n' h' s T'.heap := by rw [e1]; exact hw'.moved hal.symm
    obtain ⟨t2, a1, b1⟩ := hk A' cy' T'.heap (locs ++ L) ls (cells + mc) (slots + ms) (st.map (trV A')) q ce h1 h2 h3 h4 hwn k3 hl (by omega) (by omega) (by rw [e1]; exact hce) hcv hcl T' rfl X'
    exact ⟨t2, go.trans a1, b1⟩
/-- a callee that doesn't throw: as one that may -/
theorem run_of {H : Heap} {locs : List Loc} {cells slots mc ms : Nat} {g : JFrame} {rest : List Value} {Qa : State → Outcome → State → Prop} {XC : String → State → State → Prop} {free : Addr → Prop} (hr : va_Run p l e R s m args below meth c H locs cells slots mc ms g rest Qa free) : vx_Run p l e R s m args below meth c H locs cells slots mc ms g rest Qa XC free :=
  fun T hT X => Or.inl (hr T hT X)
/-- what a callee asks of the world at its start -/
theorem pre_of {n : Nat} {h : HP} {H : Heap} {locs : List Loc} {A : Nat → Nat} {cy : Nat → ClassId} {as : List Value} (h1 : ∀ i, i < n0 ∨ SA ≤ i → A i = A0 i) (hF : Fx A0 bs s s.heap) (hbs : bs ≤ s.heap.size) (hw : Wd D A cy bs n h s H) (hS : va_S (fun q => bs ≤ q) s.heap H locs) :
    ∀ U : State, U.heap = H → s.WarmedH U.vm → va_Pc (as.map (trV A)) (fun U => Wd D A cy bs n h U U.heap ∧ Fx A bs U U.heap ∧ bs ≤ U.heap.size) (as.map (trV A)).toArray U := by
  intro U hU hW
  refine ⟨rfl, by rw [hU]; exact hw.moved hW.alike, ?_, by rw [hU]; exact Nat.le_trans hbs hS.1⟩
  rw [hU]
  exact ((hF.kept (fun a ha hn => hS.2.1 a ha hn)).moved hW).same (h1 SA (Or.inr (Nat.le_refl _)))
end RUN
theorem met_of {l : Launch} {y : MethodName} {ws : List Cond} {rm : Room} {Pc : Array Value → State → Prop} {Qc : Array Value → State → Outcome → State → Prop} {XC : String → State → State → Prop} {mc ms : Nat} {free : Addr → Prop} (h : vx_Met l y ws rm Pc Qc XC mc ms free) (hX : ∀ E a b, ¬ XC E a b) : Met l y ws rm Pc Qc mc ms free := by
  intro p e ha hc hk s m args below hf happ hP hK
  obtain ⟨k, o, h1, h2, h3, h4⟩ := h p e ha hc hk s m args below hf happ hP hK
  refine ⟨k, o, h1, h2, h3, ?_⟩
  rcases h4 with h4 | ⟨q, _, E, ce, L, hx, _⟩
  · exact h4
  · exact absurd hx (hX E _ _)
/-- a call site's words: virtual -/
def CV (own : String) (idx ci : Nat) (y : MethodName) (cc : ByteArray) (nL : Nat) (ret : Option FieldType) (na : Nat) : Prop :=
  Cond.methodLink own idx y ∈ lw_all ∧ Cond.instanceMethod y ∈ lw_all ∧ Cond.selects y.cls y y ∈ lw_all ∧ Cond.initialized y.cls ∈ lw_all ∧ Cond.code y cc nL ret ∈ lw_all ∧ (y.cls ≠ "java/lang/invoke/MethodHandle" ∧ y.cls ≠ "java/lang/invoke/VarHandle") ∧ (parseMethodDescriptor y.desc).map (fun d => d.parameters.length) = some na ∧ ∃ (T : u_T) (N : Nat), vwCl[ci]? = some (y.cls, T, N)
/-- .. static -/
def CS (own : String) (idx : Nat) (y : MethodName) (cc : ByteArray) (nL : Nat) (ret : Option FieldType) (na : Nat) : Prop :=
  Cond.methodLink own idx y ∈ lw_all ∧ Cond.static y ∈ lw_all ∧ Cond.initialized y.cls ∈ lw_all ∧ Cond.code y cc nL ret ∈ lw_all ∧ (y.cls ≠ "java/lang/invoke/MethodHandle" ∧ y.cls ≠ "java/lang/invoke/VarHandle") ∧ (parseMethodDescriptor y.desc).map (fun d => d.parameters.length) = some na
theorem good_cons {y : MethodName} {cc : ByteArray} {nL : Nat} {ret : Option FieldType} (h : Cond.code y cc nL ret ∈ lw_all) : GoodIn lw_all (Cond.code y cc nL ret :: lw_all) := good_sub (fun w hw => (List.mem_cons.mp hw).elim (fun e => e ▸ h) id)
theorem ok_callV {X : Xt} {cc : ByteArray} {own : String} {nL f L cb sb cb0 sb0 pc n : Nat} {lv : List (Nat × Value)} {st st0 : List Value} {h : HP} (hc : Cx X cc own nL f L) {idx ci a na : Nat} {y : MethodName} {ccy : ByteArray} {nLy fy Ly mcy msy : Nat} {rety : Option FieldType} {spec : List Value → Nat → HP → KT → Prop} {fs : List Value} (As : List Value)
    (hV : CV own idx ci y ccy nLy rety na) (hSp : Sp y ccy nLy rety fy Ly mcy msy spec) (hR : fy + 1 ≤ f ∧ 8 + (nLy + 11) + Ly ≤ L) (hd : decode cc pc = .ok (.invokevirtual idx, 3)) (hna : As.length = na) (ha : a < n) (he : h a = .inl (ci, fs)) (hcb : cb + mcy = cb0) (hsb : sb + msy = sb0) (hst0 : As.reverse ++ .ref a :: st = st0) (hst : (st.map fun v => v.category).sum ≤ 8)
    (hs : spec (.ref a :: As) n h (kc X cb sb pc lv st n)) : Ok X cb0 sb0 pc lv st0 n h := by
  obtain ⟨p, l, e, R, s, m, args, below, meth, c, D, bs, A0, n0, Q⟩ := X
  obtain ⟨hx, hb, hown, hts, hml, hRf, hRl, hF, htr, hlk, hbs⟩ := hc
  intro A cy H locs ls cells slots h1 h2 h3 h4 hw hS hl h5 h6
  subst hcb; subst hsb; subst hst0
  obtain ⟨w1, w2, w3, w4, w5, w6, w7, T, N, w8⟩ := hV
  have hM := hSp l D bs A cy (.ref a :: As) n h _ htr h3 hs
  have cw : CallW R s args own y.cls idx y ccy nLy rety (.code y ccy nLy rety :: lw_all) ({ frames := fy, cells := mcy, slots := msy, locals := Ly }) mcy msy na :=
    cwV na hts (goodIn_app (good_sub (fun w hw => by
      simp only [List.mem_cons, List.not_mem_nil, or_false] at hw
      rcases hw with rfl | rfl | rfl | rfl <;> assumption)) (good_cons w5)) rfl rfl rfl ⟨rfl, w6.1, w6.2, w7⟩ ⟨by show fy + 1 ≤ R.frames; omega, by show 8 + (nLy + 11) + Ly ≤ R.locals; omega⟩
  have hrv := va_recv hw.2.1 hw.1 w8 (q0 := a) (a := A a) (fs := fs.map (trV A)) ((lst_get ha).trans (by rw [he]; rfl))
  refine run_use (av := (Value.ref (A a) :: As.map (trV A)).toArray) h1 h2 h3 h4 hS hl h5 h6 (vx_runV (As := As.map (trV A)) ⟨hx, hb, hml, hown, hts⟩ hM cw ⟨blind, hrv, pre_of (as := .ref a :: As) h1 hF hbs hw hS⟩ rfl (by rw [List.length_map]; exact hna) (by rw [← hml]; exact hl.1) ?_ (lv_room (by simpa [Function.comp_def, trV_cat] using hst)) hd ⟨by omega, by omega⟩)
  show (As.reverse ++ .ref a :: st).map (trV A) = (As.map (trV A)).reverse ++ .ref (A a) :: st.map (trV A)
  rw [List.map_append, List.map_reverse]
  rfl
theorem ok_callS {X : Xt} {cc : ByteArray} {own : String} {nL f L cb sb cb0 sb0 pc n : Nat} {lv : List (Nat × Value)} {st st0 : List Value} {h : HP} (hc : Cx X cc own nL f L) {idx na : Nat} {y : MethodName} {ccy : ByteArray} {nLy fy Ly mcy msy : Nat} {rety : Option FieldType} {spec : List Value → Nat → HP → KT → Prop} (As : List Value)
    (hV : CS own idx y ccy nLy rety na) (hSp : Sp y ccy nLy rety fy Ly mcy msy spec) (hR : fy + 1 ≤ f ∧ 8 + (nLy + 11) + Ly ≤ L) (hd : decode cc pc = .ok (.invokestatic idx, 3)) (hna : As.length = na) (hcb : cb + mcy = cb0) (hsb : sb + msy = sb0) (hst0 : As.reverse ++ st = st0) (hst : (st.map fun v => v.category).sum ≤ 8)
    (hs : spec As n h (kc X cb sb pc lv st n)) : Ok X cb0 sb0 pc lv st0 n h := by
  obtain ⟨p, l, e, R, s, m, args, below, meth, c, D, bs, A0, n0, Q⟩ := X
  obtain ⟨hx, hb, hown, hts, hml, hRf, hRl, hF, htr, hlk, hbs⟩ := hc
  intro A cy H locs ls cells slots h1 h2 h3 h4 hw hS hl h5 h6
  subst hcb; subst hsb; subst hst0
  obtain ⟨w1, w2, w4, w5, w6, w7⟩ := hV
  have hM := hSp l D bs A cy As n h _ htr h3 hs
  have cw : CallB R s args own idx y ccy nLy rety (.code y ccy nLy rety :: lw_all) ({ frames := fy, cells := mcy, slots := msy, locals := Ly }) mcy msy na ∧ (Cond.static y).before args s = true :=
    va_cwS na hts (goodIn_app (good_sub (fun w hw => by
      simp only [List.mem_cons, List.not_mem_nil, or_false] at hw
      rcases hw with rfl | rfl | rfl <;> assumption)) (good_cons w5)) rfl rfl rfl ⟨w6.1, w6.2, w7⟩ ⟨by show fy + 1 ≤ R.frames; omega, by show 8 + (nLy + 11) + Ly ≤ R.locals; omega⟩
  refine run_use (av := (As.map (trV A)).toArray) h1 h2 h3 h4 hS hl h5 h6 (vx_runS (As := As.map (trV A)) ⟨hx, hb, hml, hown, hts⟩ hM cw ⟨blind, pre_of h1 hF hbs hw hS⟩ rfl (by rw [List.length_map]; exact hna) (by rw [← hml]; exact hl.1) ?_ (lv_room (by simpa [Function.comp_def, trV_cat] using hst)) hd ⟨by omega, by omega⟩)
  show (As.reverse ++ st).map (trV A) = (As.map (trV A)).reverse ++ st.map (trV A)
  rw [List.map_append, List.map_reverse]
end
section
/-! part 07: calls of the nest's static methods; throws -/
section NEST
variable {p : Program} {l : Launch} {e : Env} {R : Room} {s : State} {m : MethodId} {args : Array Value} {below : List Frame} {meth : Method} {c : Code}
theorem run_mono {H : Heap} {locs : List Loc} {cells slots mc ms : Nat} {g : JFrame} {rest : List Value} {Qa Qb : State → Outcome → State → Prop} {XC : String → State → State → Prop} {free : Addr → Prop} (hr : va_Run p l e R s m args below meth c H locs cells slots mc ms g rest Qa free) (h : ∀ a o t, Qa a o t → Qb a o t) : vx_Run p l e R s m args below meth c H locs cells slots mc ms g rest Qb XC free := by
  intro T hT X
  obtain ⟨v, st₀, t, T', L, g0, X', hL, e1, e2, hq, go⟩ := hr T hT X
  exact Or.inl ⟨v, st₀, t, T', L, g0, X', hL, e1, e2, h _ _ _ hq, go⟩
end NEST
/-- .. of a callee that doesn't throw -/
def kn (X : Xt) (cb sb pc : Nat) (lv : List (Nat × Value)) (st : List Value) (n : Nat) : KT := fun r n' h' => n' = n ∧ match r with
  | .inl v => Ok X cb sb (pc + 3) lv (v.toList ++ st) n h'
  | .inr _ => False
theorem gQ_mono {D : va_G} {bs n0 : Nat} {A0 : Nat → Nat} {K K' : KT} (h : ∀ v n hp, K (.inl v) n hp → K' (.inl v) n hp) (a : Array Value) (s : State) (o : Outcome) (t : State) (q : gQ D bs A0 n0 K a s o t) : gQ D bs A0 n0 K' a s o t := by
  obtain ⟨A, cy, v, n, hp, g1, g2, g3⟩ := q
  exact ⟨A, cy, v, n, hp, g1, h v n hp g2, g3⟩
/-- a call site's words: static, of the nest's host -/
def CN (own : String) (idx : Nat) (y : MethodName) (host : String) (cc : ByteArray) (nL : Nat) (ret : Option FieldType) (na : Nat) : Prop :=
  (own, idx, y, host) ∈ nestw ∧ Cond.static y ∈ lw_all ∧ Cond.initialized y.cls ∈ lw_all ∧ Cond.code y cc nL ret ∈ lw_all ∧ (y.cls ≠ "java/lang/invoke/MethodHandle" ∧ y.cls ≠ "java/lang/invoke/VarHandle") ∧ (parseMethodDescriptor y.desc).map (fun d => d.parameters.length) = some na
theorem ok_callN {X : Xt} {cc : ByteArray} {own host : String} {nL f L cb sb cb0 sb0 pc n : Nat} {lv : List (Nat × Value)} {st st0 : List Value} {h : HP} (hc : Cx X cc own nL f L) {idx na : Nat} {y : MethodName} {ccy : ByteArray} {nLy fy Ly mcy msy : Nat} {rety : Option FieldType} {spec : List Value → Nat → HP → KT → Prop} (As : List Value)
    (hV : CN own idx y host ccy nLy rety na) (hSp : Sp y ccy nLy rety fy Ly mcy msy spec) (hR : fy + 1 ≤ f ∧ 8 + (nLy + 11) + Ly ≤ L) (hd : decode cc pc = .ok (.invokestatic idx, 3)) (hna : As.length = na) (hcb : cb + mcy = cb0) (hsb : sb + msy = sb0) (hst0 : As.reverse ++ st = st0) (hst : (st.map fun v => v.category).sum ≤ 8)
    (hs : spec As n h (kn X cb sb pc lv st n)) : Ok X cb0 sb0 pc lv st0 n h := by
  obtain ⟨p, l, e, R, s, m, args, below, meth, c, D, bs, A0, n0, Q⟩ := X
  obtain ⟨hx, hb, hown, hts, hml, hRf, hRl, hF, htr, hlk, hbs⟩ := hc
  intro A cy H locs ls cells slots h1 h2 h3 h4 hw hS hl h5 h6
  subst hcb; subst hsb; subst hst0
  obtain ⟨w1, w2, w4, w5, w6, w7⟩ := hV
  have hM := met_of (hSp l D bs A cy As n h _ htr h3 hs) (fun E a b q => by
    obtain ⟨_, _, _, _, hk, _⟩ := q
    exact hk.2)
  have cw : va_CN R s args own idx y host ccy nLy rety (.code y ccy nLy rety :: lw_all) ({ frames := fy, cells := mcy, slots := msy, locals := Ly }) mcy msy na ∧ (Cond.static y).before args s = true ∧ True :=
    ⟨va_cnB na hts (good_cons w5) rfl rfl rfl (hF.2.2.2.2.1 _ w1) (hts _ w4) ⟨w6.1, w6.2, w7⟩ ⟨by show fy + 1 ≤ R.frames; omega, by show 8 + (nLy + 11) + Ly ≤ R.locals; omega⟩, hts _ w2, trivial⟩
  have hr := va_runSN (p := p) (e := e) (below := below) (meth := meth) (As := As.map (trV A)) (rest := st.map (trV A)) (H := H) (locs := locs) (cells := cells) (slots := slots) (g := F0 m pc ls ((As.reverse ++ st).map (trV A))) ⟨hx, hb, hml, hown, hts⟩ hM cw ⟨blind, pre_of h1 hF hbs hw hS⟩ rfl (by rw [List.length_map]; exact hna) (by rw [← hml]; exact hl.1) (by rw [List.map_append, List.map_reverse]) (lv_room (by simpa [Function.comp_def, trV_cat] using hst)) hd ⟨by omega, by omega⟩
  exact run_use (av := (As.map (trV A)).toArray) h1 h2 h3 h4 hS hl h5 h6 (run_mono hr (fun a o t => gQ_mono (fun _ _ _ q => q) _ a o t))
/-- the words of 'throw new E(text)' -/
def TH (own : String) (ik ic : Nat) (E : String) : Prop := Bundle.fit E = true ∧ Cond.classLink own ik E ∈ lw_all ∧ Cond.initialized E ∈ lw_all ∧ E ∈ castw ∧ (∀ w ∈ (vx_atS own ic E ["java/lang/RuntimeException", "java/lang/Exception"]).filter goodWord, w ∈ lw_all) ∧ (∀ w ∈ (vx_atS own ic E ["java/lang/RuntimeException", "java/lang/Exception"]).filter (fun w => !goodWord w), w ∈ Cond.castable E E :: declw.map Cond.declares) ∧ ∀ w ∈ Cond.classLink own ik E :: Cond.initialized E :: vx_atS own ic E ["java/lang/RuntimeException", "java/lang/Exception"], vx_ot w = true
theorem gX_end {D : va_G} {bs n0 n : Nat} {A0 A : Nat → Nat} {cy : Nat → ClassId} {K : KT} {h : HP} {s t : State} {H : Heap} {locs : List Loc} {E : String} (h1 : ∀ i, i < n0 ∨ SA ≤ i → A i = A0 i) (h2 : n0 ≤ n) (h3 : n ≤ SA) (h4 : n = n0 → A = A0) (hw : Wd D A cy bs n h s H) (hS : va_S (fun q => bs ≤ q) s.heap H locs) (k : K (.inr E) n h) (hv : s.vm.Alike t.vm) (hz : H.size ≤ t.heap.size) (hq : ∀ q : Nat, q < H.size → t.heap[q]? = H[q]?) : gX D bs A0 n0 K E s t := by
  refine ⟨A, cy, n, h, k, h1, h2, h3, h4, ?_, Nat.le_trans hS.1 hz, fun q a b => by rw [hq q (Nat.lt_of_lt_of_le a hS.1)]; exact hS.2.1 q a b⟩
  have w2 : Wd D A cy bs n h s t.heap := ⟨fun j q hj => (hw.1 j q hj).kept (hq q.1 (hw.1 j q hj).lt), hw.2⟩
  exact w2.moved hv
theorem ok_throw {X : Xt} {cc : ByteArray} {own : String} {nL f L cb sb pc n : Nat} {lv : List (Nat × Value)} {st : List Value} {h : HP} {K9 : KT} {ret : Option FieldType} (hc : Cx X cc own nL f L) (hr9 : CxR X ret K9) {ik is ic : Nat} {E text : String} (hT : TH own ik ic E) (how : own = RX6) (hs9 : (is, text) ∈ strw) (d0 : decode cc pc = .ok (.new ik, 3)) (d3 : decode cc (pc + 3) = .ok (.dup, 1)) (d4 : decode cc (pc + 4) = .ok (.ldc is, 2)) (d6 : decode cc (pc + 6) = .ok (.invokespecial ic, 3)) (d9 : decode cc (pc + 9) = .ok (.athrow, 1))
    (hRf9 : 6 ≤ f) (hRl9 : 82 + (st.map fun v => v.category).sum ≤ L) (hcb : 1 ≤ cb) (hsb : 6 ≤ sb) (k : K9 (.inr E) n h) : Ok X cb sb pc lv st n h := by
  obtain ⟨p, l, e, R, s, m, args, below, meth, c, D, bs, A0, n0, Q⟩ := X
  obtain ⟨hx, hb, hown, hts, hml, hRf, hRl, hF, htr, hlk, hbs⟩ := hc
  intro A cy H locs ls cells slots h1 h2 h3 h4 hw hS hl h5 h6
  obtain ⟨r1, rfl, r3⟩ := hr9
  obtain ⟨t1, t2, t3, t4, t5, t6, t7⟩ := hT
  subst how
  obtain ⟨sa, hsa⟩ := hF.2.2.2.2.2.2.1 _ hs9
  have hsum : (List.map (fun v => v.category) (st.map (trV A))).sum = (st.map fun v => v.category).sum := by simp [Function.comp_def, trV_cat]
  exact vx_throwS (A := fun q => bs ≤ q) (names := ["java/lang/RuntimeException", "java/lang/Exception"]) hx hb htr hown t1 (by decide) (hts _ t2) (hts _ t3) hsa (vx_hat (B := Cond.castable E E :: declw.map Cond.declares) (fun w hw => hts w (t5 w hw)) t6 (vx_c (va_Nw.use rfl (hF.2.2.2.2.2.1 E t4)) (fun w hw => by obtain ⟨y, hy, rfl⟩ := List.mem_map.mp hw; exact va_Nw.use rfl (hF.2.2.2.2.2.2.2 y hy)))) t7 hF.2.2.1 hF.2.2.2.1 hS hl.1 d0 d3 d4 d6 d9 (fun x hx => (r3 x hx).elim)
    (by show 2 + 3 < R.frames; omega) (by rw [hsum]; show _ + 82 ≤ R.locals; omega) (by omega) (by omega) hlk (fun t hv hz hq => gX_end h1 h2 h3 h4 hw hS k hv hz hq) hS.2.2 (by omega) (by omega)
theorem ok_throwW {X : Xt} {cc : ByteArray} {own : String} {nL f L cb sb pc n : Nat} {lv : List (Nat × Value)} {st : List Value} {h : HP} {K9 : KT} {ret : Option FieldType} (hc : Cx X cc own nL f L) (hr9 : CxR X ret K9) {ik is ic : Nat} {E text : String} (hT : TH own ik ic E) (how : own = RX6) (hs9 : (is, text) ∈ strw) (d0 : decode cc pc = .ok (.new ik, 3)) (d3 : decode cc (pc + 3) = .ok (.dup, 1)) (d4 : decode cc (pc + 4) = .ok (.ldc_w is, 3)) (d6 : decode cc (pc + 7) = .ok (.invokespecial ic, 3)) (d9 : decode cc (pc + 10) = .ok (.athrow, 1))
    (hRf9 : 6 ≤ f) (hRl9 : 82 + (st.map fun v => v.category).sum ≤ L) (hcb : 1 ≤ cb) (hsb : 6 ≤ sb) (k : K9 (.inr E) n h) : Ok X cb sb pc lv st n h := by
  obtain ⟨p, l, e, R, s, m, args, below, meth, c, D, bs, A0, n0, Q⟩ := X
  obtain ⟨hx, hb, hown, hts, hml, hRf, hRl, hF, htr, hlk, hbs⟩ := hc
  intro A cy H locs ls cells slots h1 h2 h3 h4 hw hS hl h5 h6
  obtain ⟨r1, rfl, r3⟩ := hr9
  obtain ⟨t1, t2, t3, t4, t5, t6, t7⟩ := hT
  subst how
  obtain ⟨sa, hsa⟩ := hF.2.2.2.2.2.2.1 _ hs9
  have hsum : (List.map (fun v => v.category) (st.map (trV A))).sum = (st.map fun v => v.category).sum := by simp [Function.comp_def, trV_cat]
  exact vx_throwSW (A := fun q => bs ≤ q) (names := ["java/lang/RuntimeException", "java/lang/Exception"]) hx hb htr hown t1 (by decide) (hts _ t2) (hts _ t3) hsa (vx_hat (B := Cond.castable E E :: declw.map Cond.declares) (fun w hw => hts w (t5 w hw)) t6 (vx_c (va_Nw.use rfl (hF.2.2.2.2.2.1 E t4)) (fun w hw => by obtain ⟨y, hy, rfl⟩ := List.mem_map.mp hw; exact va_Nw.use rfl (hF.2.2.2.2.2.2.2 y hy)))) t7 hF.2.2.1 hF.2.2.2.1 hS hl.1 d0 d3 d4 d6 d9 (fun x hx => (r3 x hx).elim)
    (by show 2 + 3 < R.frames; omega) (by rw [hsum]; show _ + 82 ≤ R.locals; omega) (by omega) (by omega) hlk (fun t hv hz hq => gX_end h1 h2 h3 h4 hw hS k hv hz hq) hS.2.2 (by omega) (by omega)
/-- a callee's exception goes on to the caller -/
theorem okT_out {X : Xt} {cc : ByteArray} {own : String} {nL f L cb sb pc n : Nat} {lv : List (Nat × Value)} {h : HP} {K9 : KT} {ret : Option FieldType} {E : String} (hc : Cx X cc own nL f L) (hr9 : CxR X ret K9) (k : K9 (.inr E) n h) : OkT X cb sb pc lv E n h := by
  obtain ⟨p, l, e, R, s, m, args, below, meth, c, D, bs, A0, n0, Q⟩ := X
  obtain ⟨hx, hb, hown, hts, hml, hRf, hRl, hF, htr, hlk, hbs⟩ := hc
  intro A cy H locs ls cells slots rest q ce h1 h2 h3 h4 hw hS hl h5 h6 hce hcv hcl
  obtain ⟨r1, rfl, r3⟩ := hr9
  exact vx_out (fun x hx => (r3 x hx).elim) hlk hce hcv hcl (fun t ht hv => gX_end h1 h2 h3 h4 hw hS k hv (by rw [ht]; exact Nat.le_refl _) (fun q _ => by rw [ht])) hS.2.2 (by omega) (by omega)
theorem th_IAE : TH RX6 75 79 "java/lang/IllegalArgumentException" := ⟨by decide +kernel, by decide +kernel, by decide +kernel, by decide, by decide +kernel, by decide +kernel, by decide +kernel⟩
theorem th_ISE : TH RX6 86 90 "java/lang/IllegalStateException" := ⟨by decide +kernel, by decide +kernel, by decide +kernel, by decide, by decide +kernel, by decide +kernel, by decide +kernel⟩
theorem th_IOE : TH RX6 216 220 "java/lang/IndexOutOfBoundsException" := ⟨by decide +kernel, by decide +kernel, by decide +kernel, by decide, by decide +kernel, by decide +kernel, by decide +kernel⟩
end
