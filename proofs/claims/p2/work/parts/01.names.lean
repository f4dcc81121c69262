-- ===== PART A: goes FIRST, ahead of the names: the tables' words, and 'selects' of the private methods out of them =====
/-- a private method of a class that the tables say can be made, by its rows of tables_1 -/
def lw_okq (q : MethodName × Nat) : Prop := (q.1.cls ≠ "java/lang/invoke/MethodHandle" ∧ q.1.cls ≠ "java/lang/invoke/VarHandle") ∧ Cond.instantiable q.1.cls q.2 ∈ tables_1 ∧ Cond.privateMethod q.1 ∈ tables_1 ∧ Cond.instanceMethod q.1 ∈ tables_1
theorem lw_p0 : lw_okq (⟨"StackedRows$Writer", "measure", "(I)V"⟩, 8) := ⟨⟨by decide +kernel, by decide +kernel⟩, List.mem_of_getElem? (i := 53) (by decide +kernel), List.mem_of_getElem? (i := 295) (by decide +kernel), List.mem_of_getElem? (i := 296) (by decide +kernel)⟩
theorem lw_p1 : lw_okq (⟨"StackedRows$Writer", "writePart", "(I)I"⟩, 8) := ⟨⟨by decide +kernel, by decide +kernel⟩, List.mem_of_getElem? (i := 53) (by decide +kernel), List.mem_of_getElem? (i := 319) (by decide +kernel), List.mem_of_getElem? (i := 320) (by decide +kernel)⟩
theorem lw_p2 : lw_okq (⟨"StackedRows$Writer", "writeDigits", "(II)V"⟩, 8) := ⟨⟨by decide +kernel, by decide +kernel⟩, List.mem_of_getElem? (i := 53) (by decide +kernel), List.mem_of_getElem? (i := 323) (by decide +kernel), List.mem_of_getElem? (i := 324) (by decide +kernel)⟩
theorem lw_p3 : lw_okq (⟨"StackedRows$Writer", "writeNumber", "(II)V"⟩, 8) := ⟨⟨by decide +kernel, by decide +kernel⟩, List.mem_of_getElem? (i := 53) (by decide +kernel), List.mem_of_getElem? (i := 334) (by decide +kernel), List.mem_of_getElem? (i := 335) (by decide +kernel)⟩
theorem lw_p4 : lw_okq (⟨"StackedRows$Writer", "changeToText", "()V"⟩, 8) := ⟨⟨by decide +kernel, by decide +kernel⟩, List.mem_of_getElem? (i := 53) (by decide +kernel), List.mem_of_getElem? (i := 358) (by decide +kernel), List.mem_of_getElem? (i := 359) (by decide +kernel)⟩
theorem lw_p5 : lw_okq (⟨"StackedRows$TextWriter", "lookAt", "(IZ)I"⟩, 3) := ⟨⟨by decide +kernel, by decide +kernel⟩, List.mem_of_getElem? (i := 72) (by decide +kernel), List.mem_of_getElem? (i := 455) (by decide +kernel), List.mem_of_getElem? (i := 456) (by decide +kernel)⟩
theorem lw_p6 : lw_okq (⟨"StackedRows$TextWriter", "add", "(I)V"⟩, 3) := ⟨⟨by decide +kernel, by decide +kernel⟩, List.mem_of_getElem? (i := 72) (by decide +kernel), List.mem_of_getElem? (i := 463) (by decide +kernel), List.mem_of_getElem? (i := 464) (by decide +kernel)⟩
theorem lw_p7 : lw_okq (⟨"StackedRows$TextWriter", "pad", "()V"⟩, 3) := ⟨⟨by decide +kernel, by decide +kernel⟩, List.mem_of_getElem? (i := 72) (by decide +kernel), List.mem_of_getElem? (i := 487) (by decide +kernel), List.mem_of_getElem? (i := 488) (by decide +kernel)⟩
theorem lw_p8 : lw_okq (⟨"StackedRows$Writer", "endOfBytes", "(I)I"⟩, 8) := ⟨⟨by decide +kernel, by decide +kernel⟩, List.mem_of_getElem? (i := 53) (by decide +kernel), List.mem_of_getElem? (i := 491) (by decide +kernel), List.mem_of_getElem? (i := 492) (by decide +kernel)⟩
theorem lw_p9 : lw_okq (⟨"StackedRows$Writer", "writeBytes", "(II)V"⟩, 8) := ⟨⟨by decide +kernel, by decide +kernel⟩, List.mem_of_getElem? (i := 53) (by decide +kernel), List.mem_of_getElem? (i := 495) (by decide +kernel), List.mem_of_getElem? (i := 496) (by decide +kernel)⟩
theorem lw_p10 : lw_okq (⟨"StackedRows$Writer", "writeSix", "(I)V"⟩, 8) := ⟨⟨by decide +kernel, by decide +kernel⟩, List.mem_of_getElem? (i := 53) (by decide +kernel), List.mem_of_getElem? (i := 499) (by decide +kernel), List.mem_of_getElem? (i := 500) (by decide +kernel)⟩
theorem lw_p11 : lw_okq (⟨"java/lang/Throwable", "fillInStackTrace", "(I)Ljava/lang/Throwable;"⟩, 6) := ⟨⟨by decide +kernel, by decide +kernel⟩, List.mem_of_getElem? (i := 561) (by decide +kernel), List.mem_of_getElem? (i := 559) (by decide +kernel), List.mem_of_getElem? (i := 560) (by decide +kernel)⟩
theorem lw_p12 : lw_okq (⟨"StackedRows", "fillRow", "(I)V"⟩, 7) := ⟨⟨by decide +kernel, by decide +kernel⟩, List.mem_of_getElem? (i := 31) (by decide +kernel), List.mem_of_getElem? (i := 677) (by decide +kernel), List.mem_of_getElem? (i := 678) (by decide +kernel)⟩
theorem lw_p13 : lw_okq (⟨"StackedRows$Checks", "multiplyFactors", "(I)V"⟩, 1) := ⟨⟨by decide +kernel, by decide +kernel⟩, List.mem_of_getElem? (i := 131) (by decide +kernel), List.mem_of_getElem? (i := 685) (by decide +kernel), List.mem_of_getElem? (i := 686) (by decide +kernel)⟩
theorem lw_p14 : lw_okq (⟨"StackedRows$Checks", "divide", "([III)V"⟩, 1) := ⟨⟨by decide +kernel, by decide +kernel⟩, List.mem_of_getElem? (i := 131) (by decide +kernel), List.mem_of_getElem? (i := 692) (by decide +kernel), List.mem_of_getElem? (i := 693) (by decide +kernel)⟩
theorem lw_p15 : lw_okq (⟨"StackedRows$Symbol", "indicated", "(II)I"⟩, 3) := ⟨⟨by decide +kernel, by decide +kernel⟩, List.mem_of_getElem? (i := 141) (by decide +kernel), List.mem_of_getElem? (i := 708) (by decide +kernel), List.mem_of_getElem? (i := 709) (by decide +kernel)⟩
def lw_privs_1 : List (MethodName × Nat) := [(⟨"StackedRows$Writer", "measure", "(I)V"⟩, 8), (⟨"StackedRows$Writer", "writePart", "(I)I"⟩, 8), (⟨"StackedRows$Writer", "writeDigits", "(II)V"⟩, 8), (⟨"StackedRows$Writer", "writeNumber", "(II)V"⟩, 8), (⟨"StackedRows$Writer", "changeToText", "()V"⟩, 8), (⟨"StackedRows$TextWriter", "lookAt", "(IZ)I"⟩, 3), (⟨"StackedRows$TextWriter", "add", "(I)V"⟩, 3), (⟨"StackedRows$TextWriter", "pad", "()V"⟩, 3), (⟨"StackedRows$Writer", "endOfBytes", "(I)I"⟩, 8), (⟨"StackedRows$Writer", "writeBytes", "(II)V"⟩, 8), (⟨"StackedRows$Writer", "writeSix", "(I)V"⟩, 8), (⟨"java/lang/Throwable", "fillInStackTrace", "(I)Ljava/lang/Throwable;"⟩, 6), (⟨"StackedRows", "fillRow", "(I)V"⟩, 7), (⟨"StackedRows$Checks", "multiplyFactors", "(I)V"⟩, 1), (⟨"StackedRows$Checks", "divide", "([III)V"⟩, 1), (⟨"StackedRows$Symbol", "indicated", "(II)I"⟩, 3)]
theorem lw_r1 : ∀ q ∈ lw_privs_1, lw_okq q := List.forall_mem_cons.mpr ⟨lw_p0, List.forall_mem_cons.mpr ⟨lw_p1, List.forall_mem_cons.mpr ⟨lw_p2, List.forall_mem_cons.mpr ⟨lw_p3, List.forall_mem_cons.mpr ⟨lw_p4, List.forall_mem_cons.mpr ⟨lw_p5, List.forall_mem_cons.mpr ⟨lw_p6, List.forall_mem_cons.mpr ⟨lw_p7, List.forall_mem_cons.mpr ⟨lw_p8, List.forall_mem_cons.mpr ⟨lw_p9, List.forall_mem_cons.mpr ⟨lw_p10, List.forall_mem_cons.mpr ⟨lw_p11, List.forall_mem_cons.mpr ⟨lw_p12, List.forall_mem_cons.mpr ⟨lw_p13, List.forall_mem_cons.mpr ⟨lw_p14, List.forall_mem_cons.mpr ⟨lw_p15, fun _ h => absurd h List.not_mem_nil⟩⟩⟩⟩⟩⟩⟩⟩⟩⟩⟩⟩⟩⟩⟩⟩
theorem lw_p16 : lw_okq (⟨"StackedRows$Solver", "hearIndicators", "(LStackedRows$Symbol;)V"⟩, 9) := ⟨⟨by decide +kernel, by decide +kernel⟩, List.mem_of_getElem? (i := 157) (by decide +kernel), List.mem_of_getElem? (i := 781) (by decide +kernel), List.mem_of_getElem? (i := 782) (by decide +kernel)⟩
theorem lw_p17 : lw_okq (⟨"StackedRows$Solver", "hear", "(II)V"⟩, 9) := ⟨⟨by decide +kernel, by decide +kernel⟩, List.mem_of_getElem? (i := 157) (by decide +kernel), List.mem_of_getElem? (i := 792) (by decide +kernel), List.mem_of_getElem? (i := 793) (by decide +kernel)⟩
theorem lw_p18 : lw_okq (⟨"StackedRows$Solver", "mostTold", "(I)I"⟩, 9) := ⟨⟨by decide +kernel, by decide +kernel⟩, List.mem_of_getElem? (i := 157) (by decide +kernel), List.mem_of_getElem? (i := 801) (by decide +kernel), List.mem_of_getElem? (i := 802) (by decide +kernel)⟩
theorem lw_p19 : lw_okq (⟨"StackedRows$Solver", "mendAndRead", "(II)I"⟩, 9) := ⟨⟨by decide +kernel, by decide +kernel⟩, List.mem_of_getElem? (i := 157) (by decide +kernel), List.mem_of_getElem? (i := 811) (by decide +kernel), List.mem_of_getElem? (i := 812) (by decide +kernel)⟩
theorem lw_p20 : lw_okq (⟨"StackedRows$Mender", "copyWithoutLost", "([I)I"⟩, 9) := ⟨⟨by decide +kernel, by decide +kernel⟩, List.mem_of_getElem? (i := 163) (by decide +kernel), List.mem_of_getElem? (i := 819) (by decide +kernel), List.mem_of_getElem? (i := 820) (by decide +kernel)⟩
theorem lw_p21 : lw_okq (⟨"StackedRows$Mender", "sumsAreZero", "()Z"⟩, 9) := ⟨⟨by decide +kernel, by decide +kernel⟩, List.mem_of_getElem? (i := 163) (by decide +kernel), List.mem_of_getElem? (i := 823) (by decide +kernel), List.mem_of_getElem? (i := 824) (by decide +kernel)⟩
theorem lw_p22 : lw_okq (⟨"StackedRows$Mender", "sumAt", "(I)I"⟩, 9) := ⟨⟨by decide +kernel, by decide +kernel⟩, List.mem_of_getElem? (i := 163) (by decide +kernel), List.mem_of_getElem? (i := 827) (by decide +kernel), List.mem_of_getElem? (i := 828) (by decide +kernel)⟩
theorem lw_p23 : lw_okq (⟨"StackedRows$Mender", "locateLost", "([I)V"⟩, 9) := ⟨⟨by decide +kernel, by decide +kernel⟩, List.mem_of_getElem? (i := 163) (by decide +kernel), List.mem_of_getElem? (i := 831) (by decide +kernel), List.mem_of_getElem? (i := 832) (by decide +kernel)⟩
theorem lw_p24 : lw_okq (⟨"StackedRows$Mender", "locateWrong", "(I)V"⟩, 9) := ⟨⟨by decide +kernel, by decide +kernel⟩, List.mem_of_getElem? (i := 163) (by decide +kernel), List.mem_of_getElem? (i := 837) (by decide +kernel), List.mem_of_getElem? (i := 838) (by decide +kernel)⟩
theorem lw_p25 : lw_okq (⟨"StackedRows$Mender", "copy", "([I[I)V"⟩, 9) := ⟨⟨by decide +kernel, by decide +kernel⟩, List.mem_of_getElem? (i := 163) (by decide +kernel), List.mem_of_getElem? (i := 841) (by decide +kernel), List.mem_of_getElem? (i := 842) (by decide +kernel)⟩
theorem lw_p26 : lw_okq (⟨"StackedRows$Mender", "missAt", "(I)I"⟩, 9) := ⟨⟨by decide +kernel, by decide +kernel⟩, List.mem_of_getElem? (i := 163) (by decide +kernel), List.mem_of_getElem? (i := 848) (by decide +kernel), List.mem_of_getElem? (i := 849) (by decide +kernel)⟩
theorem lw_p27 : lw_okq (⟨"StackedRows$Mender", "subtractEarlier", "(III)V"⟩, 9) := ⟨⟨by decide +kernel, by decide +kernel⟩, List.mem_of_getElem? (i := 163) (by decide +kernel), List.mem_of_getElem? (i := 852) (by decide +kernel), List.mem_of_getElem? (i := 853) (by decide +kernel)⟩
theorem lw_p28 : lw_okq (⟨"StackedRows$Mender", "correct", "()Z"⟩, 9) := ⟨⟨by decide +kernel, by decide +kernel⟩, List.mem_of_getElem? (i := 163) (by decide +kernel), List.mem_of_getElem? (i := 862) (by decide +kernel), List.mem_of_getElem? (i := 863) (by decide +kernel)⟩
theorem lw_p29 : lw_okq (⟨"StackedRows$Mender", "prepareEvaluator", "()V"⟩, 9) := ⟨⟨by decide +kernel, by decide +kernel⟩, List.mem_of_getElem? (i := 163) (by decide +kernel), List.mem_of_getElem? (i := 866) (by decide +kernel), List.mem_of_getElem? (i := 867) (by decide +kernel)⟩
theorem lw_p30 : lw_okq (⟨"StackedRows$Mender", "slopeAt", "(I)I"⟩, 9) := ⟨⟨by decide +kernel, by decide +kernel⟩, List.mem_of_getElem? (i := 163) (by decide +kernel), List.mem_of_getElem? (i := 873) (by decide +kernel), List.mem_of_getElem? (i := 874) (by decide +kernel)⟩
theorem lw_p31 : lw_okq (⟨"StackedRows$Mender", "countWrong", "([I)I"⟩, 9) := ⟨⟨by decide +kernel, by decide +kernel⟩, List.mem_of_getElem? (i := 163) (by decide +kernel), List.mem_of_getElem? (i := 877) (by decide +kernel), List.mem_of_getElem? (i := 878) (by decide +kernel)⟩
def lw_privs_2 : List (MethodName × Nat) := [(⟨"StackedRows$Solver", "hearIndicators", "(LStackedRows$Symbol;)V"⟩, 9), (⟨"StackedRows$Solver", "hear", "(II)V"⟩, 9), (⟨"StackedRows$Solver", "mostTold", "(I)I"⟩, 9), (⟨"StackedRows$Solver", "mendAndRead", "(II)I"⟩, 9), (⟨"StackedRows$Mender", "copyWithoutLost", "([I)I"⟩, 9), (⟨"StackedRows$Mender", "sumsAreZero", "()Z"⟩, 9), (⟨"StackedRows$Mender", "sumAt", "(I)I"⟩, 9), (⟨"StackedRows$Mender", "locateLost", "([I)V"⟩, 9), (⟨"StackedRows$Mender", "locateWrong", "(I)V"⟩, 9), (⟨"StackedRows$Mender", "copy", "([I[I)V"⟩, 9), (⟨"StackedRows$Mender", "missAt", "(I)I"⟩, 9), (⟨"StackedRows$Mender", "subtractEarlier", "(III)V"⟩, 9), (⟨"StackedRows$Mender", "correct", "()Z"⟩, 9), (⟨"StackedRows$Mender", "prepareEvaluator", "()V"⟩, 9), (⟨"StackedRows$Mender", "slopeAt", "(I)I"⟩, 9), (⟨"StackedRows$Mender", "countWrong", "([I)I"⟩, 9)]
theorem lw_r2 : ∀ q ∈ lw_privs_2, lw_okq q := List.forall_mem_cons.mpr ⟨lw_p16, List.forall_mem_cons.mpr ⟨lw_p17, List.forall_mem_cons.mpr ⟨lw_p18, List.forall_mem_cons.mpr ⟨lw_p19, List.forall_mem_cons.mpr ⟨lw_p20, List.forall_mem_cons.mpr ⟨lw_p21, List.forall_mem_cons.mpr ⟨lw_p22, List.forall_mem_cons.mpr ⟨lw_p23, List.forall_mem_cons.mpr ⟨lw_p24, List.forall_mem_cons.mpr ⟨lw_p25, List.forall_mem_cons.mpr ⟨lw_p26, List.forall_mem_cons.mpr ⟨lw_p27, List.forall_mem_cons.mpr ⟨lw_p28, List.forall_mem_cons.mpr ⟨lw_p29, List.forall_mem_cons.mpr ⟨lw_p30, List.forall_mem_cons.mpr ⟨lw_p31, fun _ h => absurd h List.not_mem_nil⟩⟩⟩⟩⟩⟩⟩⟩⟩⟩⟩⟩⟩⟩⟩⟩
theorem lw_p32 : lw_okq (⟨"StackedRows$Reader", "changeTo", "(I)V"⟩, 8) := ⟨⟨by decide +kernel, by decide +kernel⟩, List.mem_of_getElem? (i := 199) (by decide +kernel), List.mem_of_getElem? (i := 886) (by decide +kernel), List.mem_of_getElem? (i := 887) (by decide +kernel)⟩
theorem lw_p33 : lw_okq (⟨"StackedRows$Reader", "readPart", "(I)I"⟩, 8) := ⟨⟨by decide +kernel, by decide +kernel⟩, List.mem_of_getElem? (i := 199) (by decide +kernel), List.mem_of_getElem? (i := 890) (by decide +kernel), List.mem_of_getElem? (i := 891) (by decide +kernel)⟩
theorem lw_p34 : lw_okq (⟨"StackedRows$Reader", "readChange", "(II)I"⟩, 8) := ⟨⟨by decide +kernel, by decide +kernel⟩, List.mem_of_getElem? (i := 199) (by decide +kernel), List.mem_of_getElem? (i := 894) (by decide +kernel), List.mem_of_getElem? (i := 895) (by decide +kernel)⟩
theorem lw_p35 : lw_okq (⟨"StackedRows$Reader", "readByte", "(I)I"⟩, 8) := ⟨⟨by decide +kernel, by decide +kernel⟩, List.mem_of_getElem? (i := 199) (by decide +kernel), List.mem_of_getElem? (i := 898) (by decide +kernel), List.mem_of_getElem? (i := 899) (by decide +kernel)⟩
theorem lw_p36 : lw_okq (⟨"StackedRows$Reader", "readDigits", "(I)I"⟩, 8) := ⟨⟨by decide +kernel, by decide +kernel⟩, List.mem_of_getElem? (i := 199) (by decide +kernel), List.mem_of_getElem? (i := 903) (by decide +kernel), List.mem_of_getElem? (i := 904) (by decide +kernel)⟩
theorem lw_p37 : lw_okq (⟨"StackedRows$Reader", "endOfRun", "(II)I"⟩, 8) := ⟨⟨by decide +kernel, by decide +kernel⟩, List.mem_of_getElem? (i := 199) (by decide +kernel), List.mem_of_getElem? (i := 907) (by decide +kernel), List.mem_of_getElem? (i := 908) (by decide +kernel)⟩
theorem lw_p38 : lw_okq (⟨"StackedRows$Reader", "readBytes", "(I)I"⟩, 8) := ⟨⟨by decide +kernel, by decide +kernel⟩, List.mem_of_getElem? (i := 199) (by decide +kernel), List.mem_of_getElem? (i := 915) (by decide +kernel), List.mem_of_getElem? (i := 916) (by decide +kernel)⟩
theorem lw_p39 : lw_okq (⟨"StackedRows$Reader", "readNumber", "(I)V"⟩, 8) := ⟨⟨by decide +kernel, by decide +kernel⟩, List.mem_of_getElem? (i := 199) (by decide +kernel), List.mem_of_getElem? (i := 921) (by decide +kernel), List.mem_of_getElem? (i := 922) (by decide +kernel)⟩
theorem lw_p40 : lw_okq (⟨"StackedRowsModel", "writeAll", "()V"⟩, 32) := ⟨⟨by decide +kernel, by decide +kernel⟩, List.mem_of_getElem? (i := 990) (by decide +kernel), List.mem_of_getElem? (i := 1102) (by decide +kernel), List.mem_of_getElem? (i := 1103) (by decide +kernel)⟩
theorem lw_p41 : lw_okq (⟨"StackedRowsModel", "digitsFrom", "(I)I"⟩, 32) := ⟨⟨by decide +kernel, by decide +kernel⟩, List.mem_of_getElem? (i := 990) (by decide +kernel), List.mem_of_getElem? (i := 1106) (by decide +kernel), List.mem_of_getElem? (i := 1107) (by decide +kernel)⟩
theorem lw_p42 : lw_okq (⟨"StackedRowsModel", "textFrom", "(I)I"⟩, 32) := ⟨⟨by decide +kernel, by decide +kernel⟩, List.mem_of_getElem? (i := 990) (by decide +kernel), List.mem_of_getElem? (i := 1113) (by decide +kernel), List.mem_of_getElem? (i := 1114) (by decide +kernel)⟩
theorem lw_p43 : lw_okq (⟨"StackedRowsModel", "word", "(I)V"⟩, 32) := ⟨⟨by decide +kernel, by decide +kernel⟩, List.mem_of_getElem? (i := 990) (by decide +kernel), List.mem_of_getElem? (i := 1120) (by decide +kernel), List.mem_of_getElem? (i := 1121) (by decide +kernel)⟩
theorem lw_p44 : lw_okq (⟨"StackedRowsModel", "writeDigits", "(II)V"⟩, 32) := ⟨⟨by decide +kernel, by decide +kernel⟩, List.mem_of_getElem? (i := 990) (by decide +kernel), List.mem_of_getElem? (i := 1124) (by decide +kernel), List.mem_of_getElem? (i := 1125) (by decide +kernel)⟩
theorem lw_p45 : lw_okq (⟨"StackedRowsModel", "writeText", "(II)V"⟩, 32) := ⟨⟨by decide +kernel, by decide +kernel⟩, List.mem_of_getElem? (i := 990) (by decide +kernel), List.mem_of_getElem? (i := 1128) (by decide +kernel), List.mem_of_getElem? (i := 1129) (by decide +kernel)⟩
theorem lw_p46 : lw_okq (⟨"StackedRowsModel", "numberIn", "(II)I"⟩, 32) := ⟨⟨by decide +kernel, by decide +kernel⟩, List.mem_of_getElem? (i := 990) (by decide +kernel), List.mem_of_getElem? (i := 1132) (by decide +kernel), List.mem_of_getElem? (i := 1133) (by decide +kernel)⟩
theorem lw_p47 : lw_okq (⟨"StackedRowsModel", "number", "(I)V"⟩, 32) := ⟨⟨by decide +kernel, by decide +kernel⟩, List.mem_of_getElem? (i := 990) (by decide +kernel), List.mem_of_getElem? (i := 1136) (by decide +kernel), List.mem_of_getElem? (i := 1137) (by decide +kernel)⟩
def lw_privs_3 : List (MethodName × Nat) := [(⟨"StackedRows$Reader", "changeTo", "(I)V"⟩, 8), (⟨"StackedRows$Reader", "readPart", "(I)I"⟩, 8), (⟨"StackedRows$Reader", "readChange", "(II)I"⟩, 8), (⟨"StackedRows$Reader", "readByte", "(I)I"⟩, 8), (⟨"StackedRows$Reader", "readDigits", "(I)I"⟩, 8), (⟨"StackedRows$Reader", "endOfRun", "(II)I"⟩, 8), (⟨"StackedRows$Reader", "readBytes", "(I)I"⟩, 8), (⟨"StackedRows$Reader", "readNumber", "(I)V"⟩, 8), (⟨"StackedRowsModel", "writeAll", "()V"⟩, 32), (⟨"StackedRowsModel", "digitsFrom", "(I)I"⟩, 32), (⟨"StackedRowsModel", "textFrom", "(I)I"⟩, 32), (⟨"StackedRowsModel", "word", "(I)V"⟩, 32), (⟨"StackedRowsModel", "writeDigits", "(II)V"⟩, 32), (⟨"StackedRowsModel", "writeText", "(II)V"⟩, 32), (⟨"StackedRowsModel", "numberIn", "(II)I"⟩, 32), (⟨"StackedRowsModel", "number", "(I)V"⟩, 32)]
theorem lw_r3 : ∀ q ∈ lw_privs_3, lw_okq q := List.forall_mem_cons.mpr ⟨lw_p32, List.forall_mem_cons.mpr ⟨lw_p33, List.forall_mem_cons.mpr ⟨lw_p34, List.forall_mem_cons.mpr ⟨lw_p35, List.forall_mem_cons.mpr ⟨lw_p36, List.forall_mem_cons.mpr ⟨lw_p37, List.forall_mem_cons.mpr ⟨lw_p38, List.forall_mem_cons.mpr ⟨lw_p39, List.forall_mem_cons.mpr ⟨lw_p40, List.forall_mem_cons.mpr ⟨lw_p41, List.forall_mem_cons.mpr ⟨lw_p42, List.forall_mem_cons.mpr ⟨lw_p43, List.forall_mem_cons.mpr ⟨lw_p44, List.forall_mem_cons.mpr ⟨lw_p45, List.forall_mem_cons.mpr ⟨lw_p46, List.forall_mem_cons.mpr ⟨lw_p47, fun _ h => absurd h List.not_mem_nil⟩⟩⟩⟩⟩⟩⟩⟩⟩⟩⟩⟩⟩⟩⟩⟩
theorem lw_p48 : lw_okq (⟨"StackedRowsModel", "change", "(II)V"⟩, 32) := ⟨⟨by decide +kernel, by decide +kernel⟩, List.mem_of_getElem? (i := 990) (by decide +kernel), List.mem_of_getElem? (i := 1140) (by decide +kernel), List.mem_of_getElem? (i := 1141) (by decide +kernel)⟩
theorem lw_p49 : lw_okq (⟨"StackedRowsModel", "bytesFrom", "(I)I"⟩, 32) := ⟨⟨by decide +kernel, by decide +kernel⟩, List.mem_of_getElem? (i := 990) (by decide +kernel), List.mem_of_getElem? (i := 1144) (by decide +kernel), List.mem_of_getElem? (i := 1145) (by decide +kernel)⟩
theorem lw_p50 : lw_okq (⟨"StackedRowsModel", "writeBytes", "(II)V"⟩, 32) := ⟨⟨by decide +kernel, by decide +kernel⟩, List.mem_of_getElem? (i := 990) (by decide +kernel), List.mem_of_getElem? (i := 1148) (by decide +kernel), List.mem_of_getElem? (i := 1149) (by decide +kernel)⟩
theorem lw_p51 : lw_okq (⟨"StackedRowsModel", "makeChecks", "(II)V"⟩, 32) := ⟨⟨by decide +kernel, by decide +kernel⟩, List.mem_of_getElem? (i := 990) (by decide +kernel), List.mem_of_getElem? (i := 1163) (by decide +kernel), List.mem_of_getElem? (i := 1164) (by decide +kernel)⟩
theorem lw_p52 : lw_okq (⟨"StackedRowsModel", "placeOf", "(I)I"⟩, 32) := ⟨⟨by decide +kernel, by decide +kernel⟩, List.mem_of_getElem? (i := 990) (by decide +kernel), List.mem_of_getElem? (i := 1167) (by decide +kernel), List.mem_of_getElem? (i := 1168) (by decide +kernel)⟩
theorem lw_p53 : lw_okq (⟨"StackedRowsModel", "at", "(II)I"⟩, 32) := ⟨⟨by decide +kernel, by decide +kernel⟩, List.mem_of_getElem? (i := 990) (by decide +kernel), List.mem_of_getElem? (i := 1171) (by decide +kernel), List.mem_of_getElem? (i := 1172) (by decide +kernel)⟩
theorem lw_p54 : lw_okq (⟨"StackedRowsModel", "indicator", "(IZI)I"⟩, 32) := ⟨⟨by decide +kernel, by decide +kernel⟩, List.mem_of_getElem? (i := 990) (by decide +kernel), List.mem_of_getElem? (i := 1175) (by decide +kernel), List.mem_of_getElem? (i := 1176) (by decide +kernel)⟩
theorem lw_p55 : lw_okq (⟨"StackedRowsModel", "isPlace", "(II)Z"⟩, 32) := ⟨⟨by decide +kernel, by decide +kernel⟩, List.mem_of_getElem? (i := 990) (by decide +kernel), List.mem_of_getElem? (i := 1187) (by decide +kernel), List.mem_of_getElem? (i := 1188) (by decide +kernel)⟩
theorem lw_p56 : lw_okq (⟨"StackedRowsModel", "solveAll", "()Z"⟩, 32) := ⟨⟨by decide +kernel, by decide +kernel⟩, List.mem_of_getElem? (i := 990) (by decide +kernel), List.mem_of_getElem? (i := 1199) (by decide +kernel), List.mem_of_getElem? (i := 1200) (by decide +kernel)⟩
theorem lw_p57 : lw_okq (⟨"StackedRowsModel", "toldFor", "(I)I"⟩, 32) := ⟨⟨by decide +kernel, by decide +kernel⟩, List.mem_of_getElem? (i := 990) (by decide +kernel), List.mem_of_getElem? (i := 1203) (by decide +kernel), List.mem_of_getElem? (i := 1204) (by decide +kernel)⟩
theorem lw_p58 : lw_okq (⟨"StackedRowsModel", "repair", "(II)Z"⟩, 32) := ⟨⟨by decide +kernel, by decide +kernel⟩, List.mem_of_getElem? (i := 990) (by decide +kernel), List.mem_of_getElem? (i := 1207) (by decide +kernel), List.mem_of_getElem? (i := 1208) (by decide +kernel)⟩
theorem lw_p59 : lw_okq (⟨"StackedRowsModel", "makeSums", "(II)Z"⟩, 32) := ⟨⟨by decide +kernel, by decide +kernel⟩, List.mem_of_getElem? (i := 990) (by decide +kernel), List.mem_of_getElem? (i := 1211) (by decide +kernel), List.mem_of_getElem? (i := 1212) (by decide +kernel)⟩
theorem lw_p60 : lw_okq (⟨"StackedRowsModel", "locator", "(II)I"⟩, 32) := ⟨⟨by decide +kernel, by decide +kernel⟩, List.mem_of_getElem? (i := 990) (by decide +kernel), List.mem_of_getElem? (i := 1218) (by decide +kernel), List.mem_of_getElem? (i := 1219) (by decide +kernel)⟩
theorem lw_p61 : lw_okq (⟨"StackedRowsModel", "divide", "(II)V"⟩, 32) := ⟨⟨by decide +kernel, by decide +kernel⟩, List.mem_of_getElem? (i := 990) (by decide +kernel), List.mem_of_getElem? (i := 1225) (by decide +kernel), List.mem_of_getElem? (i := 1226) (by decide +kernel)⟩
theorem lw_p62 : lw_okq (⟨"StackedRowsModel", "setRight", "(II)Z"⟩, 32) := ⟨⟨by decide +kernel, by decide +kernel⟩, List.mem_of_getElem? (i := 990) (by decide +kernel), List.mem_of_getElem? (i := 1241) (by decide +kernel), List.mem_of_getElem? (i := 1242) (by decide +kernel)⟩
theorem lw_p63 : lw_okq (⟨"StackedRowsModel", "readAll", "(I)Z"⟩, 32) := ⟨⟨by decide +kernel, by decide +kernel⟩, List.mem_of_getElem? (i := 990) (by decide +kernel), List.mem_of_getElem? (i := 1245) (by decide +kernel), List.mem_of_getElem? (i := 1246) (by decide +kernel)⟩
def lw_privs_4 : List (MethodName × Nat) := [(⟨"StackedRowsModel", "change", "(II)V"⟩, 32), (⟨"StackedRowsModel", "bytesFrom", "(I)I"⟩, 32), (⟨"StackedRowsModel", "writeBytes", "(II)V"⟩, 32), (⟨"StackedRowsModel", "makeChecks", "(II)V"⟩, 32), (⟨"StackedRowsModel", "placeOf", "(I)I"⟩, 32), (⟨"StackedRowsModel", "at", "(II)I"⟩, 32), (⟨"StackedRowsModel", "indicator", "(IZI)I"⟩, 32), (⟨"StackedRowsModel", "isPlace", "(II)Z"⟩, 32), (⟨"StackedRowsModel", "solveAll", "()Z"⟩, 32), (⟨"StackedRowsModel", "toldFor", "(I)I"⟩, 32), (⟨"StackedRowsModel", "repair", "(II)Z"⟩, 32), (⟨"StackedRowsModel", "makeSums", "(II)Z"⟩, 32), (⟨"StackedRowsModel", "locator", "(II)I"⟩, 32), (⟨"StackedRowsModel", "divide", "(II)V"⟩, 32), (⟨"StackedRowsModel", "setRight", "(II)Z"⟩, 32), (⟨"StackedRowsModel", "readAll", "(I)Z"⟩, 32)]
theorem lw_r4 : ∀ q ∈ lw_privs_4, lw_okq q := List.forall_mem_cons.mpr ⟨lw_p48, List.forall_mem_cons.mpr ⟨lw_p49, List.forall_mem_cons.mpr ⟨lw_p50, List.forall_mem_cons.mpr ⟨lw_p51, List.forall_mem_cons.mpr ⟨lw_p52, List.forall_mem_cons.mpr ⟨lw_p53, List.forall_mem_cons.mpr ⟨lw_p54, List.forall_mem_cons.mpr ⟨lw_p55, List.forall_mem_cons.mpr ⟨lw_p56, List.forall_mem_cons.mpr ⟨lw_p57, List.forall_mem_cons.mpr ⟨lw_p58, List.forall_mem_cons.mpr ⟨lw_p59, List.forall_mem_cons.mpr ⟨lw_p60, List.forall_mem_cons.mpr ⟨lw_p61, List.forall_mem_cons.mpr ⟨lw_p62, List.forall_mem_cons.mpr ⟨lw_p63, fun _ h => absurd h List.not_mem_nil⟩⟩⟩⟩⟩⟩⟩⟩⟩⟩⟩⟩⟩⟩⟩⟩
theorem lw_p64 : lw_okq (⟨"StackedRowsModel", "fail", "(I)Z"⟩, 32) := ⟨⟨by decide +kernel, by decide +kernel⟩, List.mem_of_getElem? (i := 990) (by decide +kernel), List.mem_of_getElem? (i := 1249) (by decide +kernel), List.mem_of_getElem? (i := 1250) (by decide +kernel)⟩
theorem lw_p65 : lw_okq (⟨"StackedRowsModel", "byteOut", "(I)V"⟩, 32) := ⟨⟨by decide +kernel, by decide +kernel⟩, List.mem_of_getElem? (i := 990) (by decide +kernel), List.mem_of_getElem? (i := 1253) (by decide +kernel), List.mem_of_getElem? (i := 1254) (by decide +kernel)⟩
theorem lw_p66 : lw_okq (⟨"StackedRowsModel", "readNumber", "(I)V"⟩, 32) := ⟨⟨by decide +kernel, by decide +kernel⟩, List.mem_of_getElem? (i := 990) (by decide +kernel), List.mem_of_getElem? (i := 1257) (by decide +kernel), List.mem_of_getElem? (i := 1258) (by decide +kernel)⟩
theorem lw_p67 : lw_okq (⟨"StackedRowsModel", "run", "(II)I"⟩, 32) := ⟨⟨by decide +kernel, by decide +kernel⟩, List.mem_of_getElem? (i := 990) (by decide +kernel), List.mem_of_getElem? (i := 1261) (by decide +kernel), List.mem_of_getElem? (i := 1262) (by decide +kernel)⟩
theorem lw_p68 : lw_okq (⟨"StackedRowsModel", "readDigits", "(II)Z"⟩, 32) := ⟨⟨by decide +kernel, by decide +kernel⟩, List.mem_of_getElem? (i := 990) (by decide +kernel), List.mem_of_getElem? (i := 1265) (by decide +kernel), List.mem_of_getElem? (i := 1266) (by decide +kernel)⟩
theorem lw_p69 : lw_okq (⟨"StackedRowsModel", "readBytes", "(IIZ)Z"⟩, 32) := ⟨⟨by decide +kernel, by decide +kernel⟩, List.mem_of_getElem? (i := 990) (by decide +kernel), List.mem_of_getElem? (i := 1269) (by decide +kernel), List.mem_of_getElem? (i := 1270) (by decide +kernel)⟩
def lw_privs_5 : List (MethodName × Nat) := [(⟨"StackedRowsModel", "fail", "(I)Z"⟩, 32), (⟨"StackedRowsModel", "byteOut", "(I)V"⟩, 32), (⟨"StackedRowsModel", "readNumber", "(I)V"⟩, 32), (⟨"StackedRowsModel", "run", "(II)I"⟩, 32), (⟨"StackedRowsModel", "readDigits", "(II)Z"⟩, 32), (⟨"StackedRowsModel", "readBytes", "(IIZ)Z"⟩, 32)]
theorem lw_r5 : ∀ q ∈ lw_privs_5, lw_okq q := List.forall_mem_cons.mpr ⟨lw_p64, List.forall_mem_cons.mpr ⟨lw_p65, List.forall_mem_cons.mpr ⟨lw_p66, List.forall_mem_cons.mpr ⟨lw_p67, List.forall_mem_cons.mpr ⟨lw_p68, List.forall_mem_cons.mpr ⟨lw_p69, fun _ h => absurd h List.not_mem_nil⟩⟩⟩⟩⟩⟩
def lw_privs : List (MethodName × Nat) := lw_privs_1 ++ (lw_privs_2 ++ (lw_privs_3 ++ (lw_privs_4 ++ (lw_privs_5))))
def lw_tbl : List Cond := k2_sels lw_privs ++ tables_1
theorem lw_privs_ok : ∀ q ∈ lw_privs, lw_okq q := by
  show ∀ q ∈ lw_privs_1 ++ (lw_privs_2 ++ (lw_privs_3 ++ (lw_privs_4 ++ (lw_privs_5)))), lw_okq q
  exact List.forall_mem_append.mpr ⟨lw_r1, List.forall_mem_append.mpr ⟨lw_r2, List.forall_mem_append.mpr ⟨lw_r3, List.forall_mem_append.mpr ⟨lw_r4, lw_r5⟩⟩⟩⟩
def tk_T0 : u_T := fun k => match k with
  | 0 => ("StackedRows", "tape", "LStackedRows$Tape;", true)
  | 1 => ("StackedRows", "writer", "LStackedRows$Writer;", true)
  | 2 => ("StackedRows", "checks", "LStackedRows$Checks;", true)
  | 3 => ("StackedRows", "symbol", "LStackedRows$Symbol;", true)
  | 4 => ("StackedRows", "solver", "LStackedRows$Solver;", true)
  | 5 => ("StackedRows", "row", "[I", true)
  | _ => ("StackedRows", "latest", "[I", true)
def tk_y0 : Nat → FieldType := fun k => match k with
  | 0 => .object "StackedRows$Tape"
  | 1 => .object "StackedRows$Writer"
  | 2 => .object "StackedRows$Checks"
  | 3 => .object "StackedRows$Symbol"
  | 4 => .object "StackedRows$Solver"
  | 5 => .array .int
  | _ => .array .int
theorem tk_n0 : ∀ a, a < 7 → ∀ b, b < 7 → a ≠ b → (tk_T0 a).2.1 ≠ (tk_T0 b).2.1 := by decide +kernel
theorem tk_o0 : ∀ k, k < 7 → parseFieldDescriptor (tk_T0 k).2.2.1 = some (tk_y0 k) := by decide +kernel
def tk_T1 : u_T := fun k => match k with
  | 0 => ("StackedRows$BigNumber", "base", "I", true)
  | _ => ("StackedRows$BigNumber", "cells", "[I", true)
def tk_y1 : Nat → FieldType := fun k => match k with
  | 0 => .int
  | _ => .array .int
theorem tk_n1 : ∀ a, a < 2 → ∀ b, b < 2 → a ≠ b → (tk_T1 a).2.1 ≠ (tk_T1 b).2.1 := by decide +kernel
theorem tk_o1 : ∀ k, k < 2 → parseFieldDescriptor (tk_T1 k).2.2.1 = some (tk_y1 k) := by decide +kernel
def tk_T2 : u_T := fun k => match k with
  | _ => ("StackedRows$Checks", "factors", "[I", true)
def tk_y2 : Nat → FieldType := fun k => match k with
  | _ => .array .int
theorem tk_n2 : ∀ a, a < 1 → ∀ b, b < 1 → a ≠ b → (tk_T2 a).2.1 ≠ (tk_T2 b).2.1 := by decide +kernel
theorem tk_o2 : ∀ k, k < 1 → parseFieldDescriptor (tk_T2 k).2.2.1 = some (tk_y2 k) := by decide +kernel
def tk_T3 : u_T := fun k => match k with
  | 0 => ("StackedRows$Codewords", "cells", "[I", true)
  | _ => ("StackedRows$Codewords", "size", "I", false)
def tk_y3 : Nat → FieldType := fun k => match k with
  | 0 => .array .int
  | _ => .int
theorem tk_n3 : ∀ a, a < 2 → ∀ b, b < 2 → a ≠ b → (tk_T3 a).2.1 ≠ (tk_T3 b).2.1 := by decide +kernel
theorem tk_o3 : ∀ k, k < 2 → parseFieldDescriptor (tk_T3 k).2.2.1 = some (tk_y3 k) := by decide +kernel
def tk_T4 : u_T := fun k => match k with
  | 0 => ("StackedRows$Mender", "mended", "[I", true)
  | 1 => ("StackedRows$Mender", "sums", "[I", true)
  | 2 => ("StackedRows$Mender", "locator", "[I", true)
  | 3 => ("StackedRows$Mender", "earlier", "[I", true)
  | 4 => ("StackedRows$Mender", "kept", "[I", true)
  | 5 => ("StackedRows$Mender", "evaluator", "[I", true)
  | 6 => ("StackedRows$Mender", "n", "I", false)
  | 7 => ("StackedRows$Mender", "k", "I", false)
  | _ => ("StackedRows$Mender", "degree", "I", false)
def tk_y4 : Nat → FieldType := fun k => match k with
  | 0 => .array .int
  | 1 => .array .int
  | 2 => .array .int
  | 3 => .array .int
  | 4 => .array .int
  | 5 => .array .int
  | 6 => .int
  | 7 => .int
  | _ => .int
theorem tk_n4 : ∀ a, a < 9 → ∀ b, b < 9 → a ≠ b → (tk_T4 a).2.1 ≠ (tk_T4 b).2.1 := by decide +kernel
theorem tk_o4 : ∀ k, k < 9 → parseFieldDescriptor (tk_T4 k).2.2.1 = some (tk_y4 k) := by decide +kernel
def tk_T5 : u_T := fun k => match k with
  | 0 => ("StackedRows$Reader", "row", "[I", true)
  | 1 => ("StackedRows$Reader", "out", "LStackedRows$Tape;", true)
  | 2 => ("StackedRows$Reader", "number", "LStackedRows$BigNumber;", true)
  | 3 => ("StackedRows$Reader", "upTo", "I", false)
  | 4 => ("StackedRows$Reader", "way", "I", false)
  | 5 => ("StackedRows$Reader", "set", "LStackedRows$Letters;", false)
  | 6 => ("StackedRows$Reader", "alone", "LStackedRows$Letters;", false)
  | _ => ("StackedRows$Reader", "faultAt", "I", false)
def tk_y5 : Nat → FieldType := fun k => match k with
  | 0 => .array .int
  | 1 => .object "StackedRows$Tape"
  | 2 => .object "StackedRows$BigNumber"
  | 3 => .int
  | 4 => .int
  | 5 => .object "StackedRows$Letters"
  | 6 => .object "StackedRows$Letters"
  | _ => .int
theorem tk_n5 : ∀ a, a < 8 → ∀ b, b < 8 → a ≠ b → (tk_T5 a).2.1 ≠ (tk_T5 b).2.1 := by decide +kernel
theorem tk_o5 : ∀ k, k < 8 → parseFieldDescriptor (tk_T5 k).2.2.1 = some (tk_y5 k) := by decide +kernel
def tk_T6 : u_T := fun k => match k with
  | 0 => ("StackedRows$Solver", "told", "[I", true)
  | 1 => ("StackedRows$Solver", "row", "[I", true)
  | 2 => ("StackedRows$Solver", "mended", "[I", true)
  | 3 => ("StackedRows$Solver", "mender", "LStackedRows$Mender;", true)
  | 4 => ("StackedRows$Solver", "bytes", "LStackedRows$Tape;", true)
  | 5 => ("StackedRows$Solver", "reader", "LStackedRows$Reader;", true)
  | 6 => ("StackedRows$Solver", "faultAt", "I", false)
  | 7 => ("StackedRows$Solver", "wrong", "I", false)
  | _ => ("StackedRows$Solver", "level", "I", false)
def tk_y6 : Nat → FieldType := fun k => match k with
  | 0 => .array .int
  | 1 => .array .int
  | 2 => .array .int
  | 3 => .object "StackedRows$Mender"
  | 4 => .object "StackedRows$Tape"
  | 5 => .object "StackedRows$Reader"
  | 6 => .int
  | 7 => .int
  | _ => .int
theorem tk_n6 : ∀ a, a < 9 → ∀ b, b < 9 → a ≠ b → (tk_T6 a).2.1 ≠ (tk_T6 b).2.1 := by decide +kernel
theorem tk_o6 : ∀ k, k < 9 → parseFieldDescriptor (tk_T6 k).2.2.1 = some (tk_y6 k) := by decide +kernel
def tk_T7 : u_T := fun k => match k with
  | 0 => ("StackedRows$Symbol", "places", "[I", true)
  | 1 => ("StackedRows$Symbol", "rows", "I", false)
  | _ => ("StackedRows$Symbol", "columns", "I", false)
def tk_y7 : Nat → FieldType := fun k => match k with
  | 0 => .array .int
  | 1 => .int
  | _ => .int
theorem tk_n7 : ∀ a, a < 3 → ∀ b, b < 3 → a ≠ b → (tk_T7 a).2.1 ≠ (tk_T7 b).2.1 := by decide +kernel
theorem tk_o7 : ∀ k, k < 3 → parseFieldDescriptor (tk_T7 k).2.2.1 = some (tk_y7 k) := by decide +kernel
def tk_T8 : u_T := fun k => match k with
  | 0 => ("StackedRows$Tape", "bytes", "[I", true)
  | _ => ("StackedRows$Tape", "size", "I", false)
def tk_y8 : Nat → FieldType := fun k => match k with
  | 0 => .array .int
  | _ => .int
theorem tk_n8 : ∀ a, a < 2 → ∀ b, b < 2 → a ≠ b → (tk_T8 a).2.1 ≠ (tk_T8 b).2.1 := by decide +kernel
theorem tk_o8 : ∀ k, k < 2 → parseFieldDescriptor (tk_T8 k).2.2.1 = some (tk_y8 k) := by decide +kernel
def tk_T9 : u_T := fun k => match k with
  | 0 => ("StackedRows$TextWriter", "out", "LStackedRows$Codewords;", true)
  | 1 => ("StackedRows$TextWriter", "set", "LStackedRows$Letters;", false)
  | _ => ("StackedRows$TextWriter", "half", "I", false)
def tk_y9 : Nat → FieldType := fun k => match k with
  | 0 => .object "StackedRows$Codewords"
  | 1 => .object "StackedRows$Letters"
  | _ => .int
theorem tk_n9 : ∀ a, a < 3 → ∀ b, b < 3 → a ≠ b → (tk_T9 a).2.1 ≠ (tk_T9 b).2.1 := by decide +kernel
theorem tk_o9 : ∀ k, k < 3 → parseFieldDescriptor (tk_T9 k).2.2.1 = some (tk_y9 k) := by decide +kernel
def tk_T10 : u_T := fun k => match k with
  | 0 => ("StackedRows$Writer", "tape", "LStackedRows$Tape;", true)
  | 1 => ("StackedRows$Writer", "out", "LStackedRows$Codewords;", true)
  | 2 => ("StackedRows$Writer", "text", "LStackedRows$TextWriter;", true)
  | 3 => ("StackedRows$Writer", "number", "LStackedRows$BigNumber;", true)
  | 4 => ("StackedRows$Writer", "digits", "[I", true)
  | 5 => ("StackedRows$Writer", "texts", "[I", true)
  | 6 => ("StackedRows$Writer", "way", "I", false)
  | _ => ("StackedRows$Writer", "fresh", "Z", false)
def tk_y10 : Nat → FieldType := fun k => match k with
  | 0 => .object "StackedRows$Tape"
  | 1 => .object "StackedRows$Codewords"
  | 2 => .object "StackedRows$TextWriter"
  | 3 => .object "StackedRows$BigNumber"
  | 4 => .array .int
  | 5 => .array .int
  | 6 => .int
  | _ => .boolean
theorem tk_n10 : ∀ a, a < 8 → ∀ b, b < 8 → a ≠ b → (tk_T10 a).2.1 ≠ (tk_T10 b).2.1 := by decide +kernel
theorem tk_o10 : ∀ k, k < 8 → parseFieldDescriptor (tk_T10 k).2.2.1 = some (tk_y10 k) := by decide +kernel
def tk_T11 : u_T := fun k => match k with
  | 0 => ("StackedRowsModel", "thrown", "I", false)
  | 1 => ("StackedRowsModel", "tape", "[I", true)
  | 2 => ("StackedRowsModel", "tapeSize", "I", false)
  | 3 => ("StackedRowsModel", "words", "[I", true)
  | 4 => ("StackedRowsModel", "wordCount", "I", false)
  | 5 => ("StackedRowsModel", "set", "I", false)
  | 6 => ("StackedRowsModel", "waits", "I", false)
  | 7 => ("StackedRowsModel", "mixed", "[I", true)
  | 8 => ("StackedRowsModel", "signs", "[I", true)
  | 9 => ("StackedRowsModel", "rows", "I", false)
  | 10 => ("StackedRowsModel", "columns", "I", false)
  | 11 => ("StackedRowsModel", "places", "[I", true)
  | 12 => ("StackedRowsModel", "fault", "I", false)
  | 13 => ("StackedRowsModel", "faultAt", "I", false)
  | 14 => ("StackedRowsModel", "wrong", "I", false)
  | 15 => ("StackedRowsModel", "told", "I", false)
  | 16 => ("StackedRowsModel", "row", "[I", true)
  | 17 => ("StackedRowsModel", "lost", "[Z", true)
  | 18 => ("StackedRowsModel", "powers", "[I", true)
  | 19 => ("StackedRowsModel", "sums", "[I", true)
  | 20 => ("StackedRowsModel", "counted", "[I", true)
  | 21 => ("StackedRowsModel", "gone", "[I", true)
  | 22 => ("StackedRowsModel", "above", "[I", true)
  | 23 => ("StackedRowsModel", "below", "[I", true)
  | 24 => ("StackedRowsModel", "old", "[I", true)
  | 25 => ("StackedRowsModel", "now", "[I", true)
  | 26 => ("StackedRowsModel", "work", "[I", true)
  | 27 => ("StackedRowsModel", "isWrong", "[Z", true)
  | 28 => ("StackedRowsModel", "out", "[I", true)
  | 29 => ("StackedRowsModel", "outSize", "I", false)
  | 30 => ("StackedRowsModel", "digits", "[I", true)
  | _ => ("StackedRowsModel", "alone", "I", false)
def tk_y11 : Nat → FieldType := fun k => match k with
  | 0 => .int
  | 1 => .array .int
  | 2 => .int
  | 3 => .array .int
  | 4 => .int
  | 5 => .int
  | 6 => .int
  | 7 => .array .int
  | 8 => .array .int
  | 9 => .int
  | 10 => .int
  | 11 => .array .int
  | 12 => .int
  | 13 => .int
  | 14 => .int
  | 15 => .int
  | 16 => .array .int
  | 17 => .array .boolean
  | 18 => .array .int
  | 19 => .array .int
  | 20 => .array .int
  | 21 => .array .int
  | 22 => .array .int
  | 23 => .array .int
  | 24 => .array .int
  | 25 => .array .int
  | 26 => .array .int
  | 27 => .array .boolean
  | 28 => .array .int
  | 29 => .int
  | 30 => .array .int
  | _ => .int
theorem tk_n11 : ∀ a, a < 32 → ∀ b, b < 32 → a ≠ b → (tk_T11 a).2.1 ≠ (tk_T11 b).2.1 := by decide +kernel
theorem tk_o11 : ∀ k, k < 32 → parseFieldDescriptor (tk_T11 k).2.2.1 = some (tk_y11 k) := by decide +kernel
abbrev vwCl : List vw_C := [("StackedRows", tk_T0, 7), ("StackedRows$BigNumber", tk_T1, 2), ("StackedRows$Checks", tk_T2, 1), ("StackedRows$Codewords", tk_T3, 2), ("StackedRows$Mender", tk_T4, 9), ("StackedRows$Reader", tk_T5, 8), ("StackedRows$Solver", tk_T6, 9), ("StackedRows$Symbol", tk_T7, 3), ("StackedRows$Tape", tk_T8, 2), ("StackedRows$TextWriter", tk_T9, 3), ("StackedRows$Writer", tk_T10, 8), ("StackedRowsModel", tk_T11, 32)]
def yy_TP_init : MethodName := ⟨"StackedRows$Tape", "<init>", "()V"⟩
abbrev cd_TP_init : ByteArray := prog_10_method_1_code
def yy_TP_size : MethodName := ⟨"StackedRows$Tape", "size", "()I"⟩
abbrev cd_TP_size : ByteArray := prog_10_method_2_code
def yy_TP_add : MethodName := ⟨"StackedRows$Tape", "add", "(I)V"⟩
abbrev cd_TP_add : ByteArray := prog_10_method_4_code
def yy_TP_addFour : MethodName := ⟨"StackedRows$Tape", "addFour", "(I)V"⟩
abbrev cd_TP_addFour : ByteArray := prog_10_method_5_code
def yy_TP_cut : MethodName := ⟨"StackedRows$Tape", "cut", "(I)V"⟩
abbrev cd_TP_cut : ByteArray := prog_10_method_6_code
def yy_CW_init : MethodName := ⟨"StackedRows$Codewords", "<init>", "()V"⟩
abbrev cd_CW_init : ByteArray := prog_4_method_1_code
def yy_CW_size : MethodName := ⟨"StackedRows$Codewords", "size", "()I"⟩
abbrev cd_CW_size : ByteArray := prog_4_method_2_code
def yy_CW_clear : MethodName := ⟨"StackedRows$Codewords", "clear", "()V"⟩
abbrev cd_CW_clear : ByteArray := prog_4_method_5_code
def yy_BN_init : MethodName := ⟨"StackedRows$BigNumber", "<init>", "(II)V"⟩
abbrev cd_BN_init : ByteArray := prog_2_method_1_code
def yy_TW_init : MethodName := ⟨"StackedRows$TextWriter", "<init>", "(LStackedRows$Codewords;)V"⟩
abbrev cd_TW_init : ByteArray := prog_11_method_1_code
def yy_TW_beginWithCapitals : MethodName := ⟨"StackedRows$TextWriter", "beginWithCapitals", "()V"⟩
abbrev cd_TW_beginWithCapitals : ByteArray := prog_11_method_2_code
def yy_WR_init : MethodName := ⟨"StackedRows$Writer", "<init>", "(LStackedRows$Tape;)V"⟩
abbrev cd_WR_init : ByteArray := prog_12_method_1_code
def yy_WR_forget : MethodName := ⟨"StackedRows$Writer", "forget", "()V"⟩
abbrev cd_WR_forget : ByteArray := prog_12_method_2_code
def yy_WR_size : MethodName := ⟨"StackedRows$Writer", "size", "()I"⟩
abbrev cd_WR_size : ByteArray := prog_12_method_3_code
def yy_WR_measure : MethodName := ⟨"StackedRows$Writer", "measure", "(I)V"⟩
abbrev cd_WR_measure : ByteArray := prog_12_method_6_code
def yy_WR_write : MethodName := ⟨"StackedRows$Writer", "write", "()V"⟩
abbrev cd_WR_write : ByteArray := prog_12_method_5_code
def yy_SY_init : MethodName := ⟨"StackedRows$Symbol", "<init>", "()V"⟩
abbrev cd_SY_init : ByteArray := prog_9_method_1_code
def yy_SY_isThere : MethodName := ⟨"StackedRows$Symbol", "isThere", "()Z"⟩
abbrev cd_SY_isThere : ByteArray := prog_9_method_2_code
def yy_SY_rows : MethodName := ⟨"StackedRows$Symbol", "rows", "()I"⟩
abbrev cd_SY_rows : ByteArray := prog_9_method_3_code
def yy_SY_columns : MethodName := ⟨"StackedRows$Symbol", "columns", "()I"⟩
abbrev cd_SY_columns : ByteArray := prog_9_method_4_code
def yy_SY_leftKind : MethodName := ⟨"StackedRows$Symbol", "leftKind", "(I)I"⟩
abbrev cd_SY_leftKind : ByteArray := prog_9_method_11_code
def yy_SY_rightKind : MethodName := ⟨"StackedRows$Symbol", "rightKind", "(I)I"⟩
abbrev cd_SY_rightKind : ByteArray := prog_9_method_12_code
def yy_SY_indicated : MethodName := ⟨"StackedRows$Symbol", "indicated", "(II)I"⟩
abbrev cd_SY_indicated : ByteArray := prog_9_method_13_code
def yy_SY_has : MethodName := ⟨"StackedRows$Symbol", "has", "(II)Z"⟩
abbrev cd_SY_has : ByteArray := prog_9_method_6_code
def yy_SY_set : MethodName := ⟨"StackedRows$Symbol", "set", "(III)V"⟩
abbrev cd_SY_set : ByteArray := prog_9_method_8_code
def yy_AR_fill : MethodName := ⟨"java/util/Arrays", "fill", "([II)V"⟩
abbrev cd_AR_fill : ByteArray := prog_29_method_103_code
def yy_SY_begin : MethodName := ⟨"StackedRows$Symbol", "begin", "(II)V"⟩
abbrev cd_SY_begin : ByteArray := prog_9_method_5_code
def yy_SY_fill : MethodName := ⟨"StackedRows$Symbol", "fill", "([II)V"⟩
abbrev cd_SY_fill : ByteArray := prog_9_method_9_code
def yy_SR_negative : MethodName := ⟨"StackedRows", "negative", "(I)I"⟩
abbrev cd_SR_negative : ByteArray := prog_1_method_19_code
def yy_SR_checksOf : MethodName := ⟨"StackedRows", "checksOf", "(I)I"⟩
abbrev cd_SR_checksOf : ByteArray := prog_1_method_16_code
def yy_SR_rowsFor : MethodName := ⟨"StackedRows", "rowsFor", "(II)I"⟩
abbrev cd_SR_rowsFor : ByteArray := prog_1_method_14_code
def yy_CK_init : MethodName := ⟨"StackedRows$Checks", "<init>", "()V"⟩
abbrev cd_CK_init : ByteArray := prog_3_method_1_code
def yy_CK_multiplyFactors : MethodName := ⟨"StackedRows$Checks", "multiplyFactors", "(I)V"⟩
abbrev cd_CK_multiplyFactors : ByteArray := prog_3_method_3_code
def yy_CK_divide : MethodName := ⟨"StackedRows$Checks", "divide", "([III)V"⟩
abbrev cd_CK_divide : ByteArray := prog_3_method_4_code
def yy_CK_write : MethodName := ⟨"StackedRows$Checks", "write", "([III)V"⟩
abbrev cd_CK_write : ByteArray := prog_3_method_2_code
def yy_MD_init : MethodName := ⟨"StackedRows$Mender", "<init>", "([I)V"⟩
abbrev cd_MD_init : ByteArray := prog_6_method_1_code
def yy_RD_init : MethodName := ⟨"StackedRows$Reader", "<init>", "([ILStackedRows$Tape;)V"⟩
abbrev cd_RD_init : ByteArray := prog_7_method_1_code
def yy_SV_init : MethodName := ⟨"StackedRows$Solver", "<init>", "([I)V"⟩
abbrev cd_SV_init : ByteArray := prog_8_method_1_code
def yy_SR_init : MethodName := ⟨"StackedRows", "<init>", "()V"⟩
abbrev cd_SR_init : ByteArray := prog_1_method_1_code
def yy_SR_feed : MethodName := ⟨"StackedRows", "feed", "(IIIII)I"⟩
abbrev cd_SR_feed : ByteArray := prog_1_method_2_code
def yy_SR_end : MethodName := ⟨"StackedRows", "end", "(I)V"⟩
abbrev cd_SR_end : ByteArray := prog_1_method_3_code
def yy_SR_byteAt : MethodName := ⟨"StackedRows", "byteAt", "(I)I"⟩
abbrev cd_SR_byteAt : ByteArray := prog_1_method_4_code
def yy_SR_codewords : MethodName := ⟨"StackedRows", "codewords", "()I"⟩
abbrev cd_SR_codewords : ByteArray := prog_1_method_5_code
def yy_SR_codeword : MethodName := ⟨"StackedRows", "codeword", "(I)I"⟩
abbrev cd_SR_codeword : ByteArray := prog_1_method_6_code
def yy_SR_make : MethodName := ⟨"StackedRows", "make", "(II)I"⟩
abbrev cd_SR_make : ByteArray := prog_1_method_7_code
def yy_SR_fillRow : MethodName := ⟨"StackedRows", "fillRow", "(I)V"⟩
abbrev cd_SR_fillRow : ByteArray := prog_1_method_15_code
def yy_SR_blank : MethodName := ⟨"StackedRows", "blank", "(II)V"⟩
abbrev cd_SR_blank : ByteArray := prog_1_method_8_code
def yy_SR_place : MethodName := ⟨"StackedRows", "place", "(II)I"⟩
abbrev cd_SR_place : ByteArray := prog_1_method_9_code
def yy_SR_put : MethodName := ⟨"StackedRows", "put", "(III)V"⟩
abbrev cd_SR_put : ByteArray := prog_1_method_10_code
def yy_SR_solve : MethodName := ⟨"StackedRows", "solve", "()I"⟩
abbrev cd_SR_solve : ByteArray := prog_1_method_11_code
def yy_SR_solved : MethodName := ⟨"StackedRows", "solved", "(I)I"⟩
abbrev cd_SR_solved : ByteArray := prog_1_method_12_code
def yy_SR_count : MethodName := ⟨"StackedRows", "count", "(I)I"⟩
abbrev cd_SR_count : ByteArray := prog_1_method_13_code
def yy_MO_init : MethodName := ⟨"StackedRowsModel", "<init>", "()V"⟩
abbrev cd_MO_init : ByteArray := prog_14_method_1_code
def yy_MO_thrown : MethodName := ⟨"StackedRowsModel", "thrown", "()I"⟩
abbrev cd_MO_thrown : ByteArray := prog_14_method_2_code
def yy_MO_writeAll : MethodName := ⟨"StackedRowsModel", "writeAll", "()V"⟩
abbrev cd_MO_writeAll : ByteArray := prog_14_method_15_code
def yy_MO_codewords : MethodName := ⟨"StackedRowsModel", "codewords", "()I"⟩
abbrev cd_MO_codewords : ByteArray := prog_14_method_16_code
def yy_MO_codeword : MethodName := ⟨"StackedRowsModel", "codeword", "(I)I"⟩
abbrev cd_MO_codeword : ByteArray := prog_14_method_17_code
def yy_MO_feed : MethodName := ⟨"StackedRowsModel", "feed", "(IIIII)I"⟩
abbrev cd_MO_feed : ByteArray := prog_14_method_50_code
def yy_MO_end : MethodName := ⟨"StackedRowsModel", "end", "(I)V"⟩
abbrev cd_MO_end : ByteArray := prog_14_method_51_code
def yy_MO_byteAt : MethodName := ⟨"StackedRowsModel", "byteAt", "(I)I"⟩
abbrev cd_MO_byteAt : ByteArray := prog_14_method_52_code
def yy_MO_solve : MethodName := ⟨"StackedRowsModel", "solve", "()I"⟩
abbrev cd_MO_solve : ByteArray := prog_14_method_48_code
def yy_MO_place : MethodName := ⟨"StackedRowsModel", "place", "(II)I"⟩
abbrev cd_MO_place : ByteArray := prog_14_method_25_code
def yy_MO_put : MethodName := ⟨"StackedRowsModel", "put", "(III)V"⟩
abbrev cd_MO_put : ByteArray := prog_14_method_26_code
def yy_MO_solved : MethodName := ⟨"StackedRowsModel", "solved", "(I)I"⟩
abbrev cd_MO_solved : ByteArray := prog_14_method_49_code
def yy_MO_count : MethodName := ⟨"StackedRowsModel", "count", "(I)I"⟩
abbrev cd_MO_count : ByteArray := prog_14_method_53_code
def yy_MO_make : MethodName := ⟨"StackedRowsModel", "make", "(II)I"⟩
abbrev cd_MO_make : ByteArray := prog_14_method_22_code
def yy_MO_at : MethodName := ⟨"StackedRowsModel", "at", "(II)I"⟩
abbrev cd_MO_at : ByteArray := prog_14_method_19_code
def yy_MO_placeOf : MethodName := ⟨"StackedRowsModel", "placeOf", "(I)I"⟩
abbrev cd_MO_placeOf : ByteArray := prog_14_method_20_code
def yy_MO_indicator : MethodName := ⟨"StackedRowsModel", "indicator", "(IZI)I"⟩
abbrev cd_MO_indicator : ByteArray := prog_14_method_18_code
def yy_MO_makeChecks : MethodName := ⟨"StackedRowsModel", "makeChecks", "(II)V"⟩
abbrev cd_MO_makeChecks : ByteArray := prog_14_method_21_code
def yy_MO_blank : MethodName := ⟨"StackedRowsModel", "blank", "(II)V"⟩
abbrev cd_MO_blank : ByteArray := prog_14_method_23_code
def yy_LW_feed : MethodName := ⟨"StackedRowsLaw", "feed", "(LStackedRows;IIIII[J)I"⟩
abbrev cd_LW_feed : ByteArray := method_3_code
def yy_LW_end : MethodName := ⟨"StackedRowsLaw", "end", "(LStackedRows;I)I"⟩
abbrev cd_LW_end : ByteArray := method_4_code
def yy_LW_byteAt : MethodName := ⟨"StackedRowsLaw", "byteAt", "(LStackedRows;I[J)I"⟩
abbrev cd_LW_byteAt : ByteArray := method_5_code
def yy_LW_codeword : MethodName := ⟨"StackedRowsLaw", "codeword", "(LStackedRows;I[J)I"⟩
abbrev cd_LW_codeword : ByteArray := method_6_code
def yy_LW_make : MethodName := ⟨"StackedRowsLaw", "make", "(LStackedRows;II[J)I"⟩
abbrev cd_LW_make : ByteArray := method_7_code
def yy_LW_blank : MethodName := ⟨"StackedRowsLaw", "blank", "(LStackedRows;II)I"⟩
abbrev cd_LW_blank : ByteArray := method_8_code
def yy_LW_place : MethodName := ⟨"StackedRowsLaw", "place", "(LStackedRows;II[J)I"⟩
abbrev cd_LW_place : ByteArray := method_9_code
def yy_LW_put : MethodName := ⟨"StackedRowsLaw", "put", "(LStackedRows;III)I"⟩
abbrev cd_LW_put : ByteArray := method_10_code
def yy_LW_solve : MethodName := ⟨"StackedRowsLaw", "solve", "(LStackedRows;[J)I"⟩
abbrev cd_LW_solve : ByteArray := method_11_code
def yy_LW_solved : MethodName := ⟨"StackedRowsLaw", "solved", "(LStackedRows;I[J)I"⟩
abbrev cd_LW_solved : ByteArray := method_12_code
def yy_LW_count : MethodName := ⟨"StackedRowsLaw", "count", "(LStackedRows;I[J)I"⟩
abbrev cd_LW_count : ByteArray := method_13_code
def yy_LW_law : MethodName := ⟨"StackedRowsLaw", "law", "([I)Z"⟩
abbrev cd_LW_law : ByteArray := code
abbrev xn_neg : Cond := .methodLinkNest "StackedRows$Checks" 23 yy_SR_negative "StackedRows"
-- the words that every method leans on: those of the tables that hold at every later state too
def xt_ok (w : Cond) : Bool := (w.onTables && w.keeps) || (match w with | .arrayClass _ => true | _ => false)
def xt_T : List Cond := lw_tbl.filter xt_ok
theorem xt_in {w : Cond} (h : w ∈ lw_tbl) (ho : xt_ok w = true) : w ∈ xt_T := List.mem_filter.mpr ⟨h, ho⟩
theorem xt_good {w : Cond} (h : w ∈ xt_T) : (w.onTables && w.keeps) = true ∨ ∃ ty, w = .arrayClass ty := by
  have h2 := (List.mem_filter.mp h).2
  unfold xt_ok at h2
  rw [Bool.or_eq_true] at h2
  rcases h2 with h2 | h2
  · exact Or.inl h2
  · cases w <;> first | exact Or.inr ⟨_, rfl⟩ | exact absurd h2 (by simp)
theorem xt_all {args : Array Value} {s : State} (h : ∀ w ∈ lw_tbl, w.before args s = true) : ∀ w ∈ xt_T, w.before args s = true := fun w hw => h w (List.mem_filter.mp hw).1
theorem xt_sub {y : MethodName} {b : ByteArray} {n : Nat} {r : Option FieldType} (h : Cond.code y b n r ∈ xt_T) : GoodIn xt_T (.code y b n r :: xt_T) := by
  intro w hw
  rcases List.mem_cons.mp hw with rfl | hw
  · exact ⟨h, xt_good h⟩
  · exact ⟨hw, xt_good hw⟩
theorem xt_V {own C : String} {idx : Nat} {y : MethodName} {b : ByteArray} {n : Nat} {r : Option FieldType} (h1 : Cond.methodLink own idx y ∈ xt_T) (h2 : Cond.instanceMethod y ∈ xt_T) (h3 : Cond.selects C y y ∈ xt_T) (h4 : Cond.initialized C ∈ xt_T) (h5 : Cond.code y b n r ∈ xt_T) : GoodIn xt_T (wsV own idx C y (.code y b n r :: xt_T)) := by
  intro w hw
  unfold wsV at hw
  rcases List.mem_append.mp hw with hw | hw
  · simp only [List.mem_cons, List.not_mem_nil, or_false] at hw
    rcases hw with rfl | rfl | rfl | rfl
    · exact ⟨h1, xt_good h1⟩
    · exact ⟨h2, xt_good h2⟩
    · exact ⟨h3, xt_good h3⟩
    · exact ⟨h4, xt_good h4⟩
  · exact xt_sub h5 w hw
-- the tables' numbers: classes and slots, the classes of int[], long[], boolean[]
abbrev xg_G : Type := va_G × ClassId × ClassId × ClassId
abbrev xg_t (g : xg_G) : List (ClassId × FieldType) := [(g.2.1, .int), (g.2.2.1, .long), (g.2.2.2, .boolean)]
abbrev oc_o (q ci : Nat) (fs : List Value) : Nat × va_E := (q, .inr (ci, fs))
abbrev oc_i (g : xg_G) (q n : Nat) (f : Nat → Int32) : Nat × va_E := (q, .inl (g.2.1, n, .inl f))
abbrev oc_z (g : xg_G) (q n : Nat) (f : Nat → Int32) : Nat × va_E := (q, .inl (g.2.2.2, n, .inl f))
abbrev oc_l (g : xg_G) (q n : Nat) (f : Nat → Int64) : Nat × va_E := (q, .inl (g.2.2.1, n, .inr (.inl f)))
