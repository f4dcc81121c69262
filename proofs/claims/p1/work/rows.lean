section
-- ===== PART A: goes FIRST, ahead of the names: the tables' words, and 'selects' of the private methods out of them =====
/-- a private method of a class that the tables say can be made, by its rows of tables_1 -/
def lw_okq (q : MethodName × Nat) : Prop := (q.1.cls ≠ "java/lang/invoke/MethodHandle" ∧ q.1.cls ≠ "java/lang/invoke/VarHandle") ∧ Cond.instantiable q.1.cls q.2 ∈ tables_1 ∧ Cond.privateMethod q.1 ∈ tables_1 ∧ Cond.instanceMethod q.1 ∈ tables_1
theorem lw_p0 : lw_okq (⟨"StackedRows$Writer", "measure", "(I)V"⟩, 8) := ⟨⟨by decide +kernel, by decide +kernel⟩, List.mem_of_getElem? (i := 53) (by decide +kernel), List.mem_of_getElem? (i := 295) (by decide +kernel), List.mem_of_getElem? (i := 296) (by decide +kernel)⟩
theorem lw_p1 : lw_okq (⟨"StackedRows$Writer", "writePart", "(I)I"⟩, 8) := ⟨⟨by decide +kernel, by decide +kernel⟩, List.mem_of_getElem? (i := 53) (by decide +kernel), List.mem_of_getElem? (i := 319) (by decide +kernel), List.mem_of_getElem? (i := 320) (by decide +kernel)⟩
theorem lw_p2 : lw_okq (⟨"StackedRows$Writer", "writeDigits", "(II)V"⟩, 8) := ⟨⟨by decide +kernel, by decide +kernel⟩, List.mem_of_getElem? (i := 53) (by decide +kernel), List.mem_of_getElem? (i := 323) (by decide +kernel), List.mem_of_getElem? (i := 324) (by decide +kernel)⟩
theorem lw_p3 : lw_okq (⟨"StackedRows$Writer", "writeNumber", "(II)V"⟩, 8) := ⟨⟨by decide +kernel, by decide +kernel⟩, List.mem_of_getElem? (i := 53) (by decide +kernel), List.mem_of_getElem? (i := 334) (by decide +kernel), List.mem_of_getElem? (i := 335) (by decide +kernel)⟩
theorem lw_p4 : lw_okq (⟨"StackedRows$Writer", "changeToText", "()V"⟩, 8) := ⟨⟨by decide +kernel, by decide +kernel⟩, List.mem_of_getElem? (i := 53) (by decide +kernel), List.mem_of_getElem? (i := 358) (by decide +kernel), List.mem_of_getElem? (i := 359) (by decide +kernel)⟩
theorem lw_p5 : lw_okq (⟨"StackedRows$TextWriter", "lookAt", "(IZ)I"⟩, 3) := ⟨⟨by decide +kernel, by decide +kernel⟩, List.mem_of_getElem? (i := 72) (by decide +kernel), List.mem_of_getElem? (i := 455) (by decide +kernel), List.mem_of_getElem? (i := 456) (by decide +kernel)⟩
theorem lw_p6 : lw_okq (⟨"StackedRows$TextWriter", "add", "(I)V"⟩, 3) := ⟨⟨by decide +kernel, by decide +kernel⟩, List.mem_of_getElem? (i := 72) (by decide +kernel), List.mem_of_getElem? (i := 463) (by decide +kernel), List.mem_of_getElem? (i := 464) (by decide +kernel)⟩
theorem lw_p7 : lw_okq (⟨"StackedRows$TextWriter", "pad", "()V"⟩, 3) := ⟨⟨by decide +kernel, by decide +kernel⟩, List.mem_of_getElem? (i := 72) (by decide +kernel), List.mem_of_getElem? (i := 487) (by decide +kernel), List.mem_of_getElem? (i := 488) (by decide +kernel)⟩
theorem lw_p8 : lw_okq (⟨"StackedRows$Writer", "endOfBytes", "(I)I"⟩, 8) := ⟨⟨by decide +kernel, by decide +kernel⟩, List.mem_of_getElem? (i := 53) (by decide +kernel), List.mem_of_getElem? (i := 491) (by decide +kernel), List.mem_of_getElem? (i := 492) (by decide +kernel)⟩
theorem lw_p9 : lw_okq (⟨"StackedRows$Writer", "writeBytes", "(II)V"⟩, 8) := ⟨⟨by decide +kernel, by decide +kernel⟩, List.mem_of_getElem? (i := 53) (by decide +kernel), List.mem_of_getElem? (i := 495) (by decide +kernel), List.mem_of_getElem? (i := 496) (by decide +kernel)⟩
theorem lw_p10 : lw_okq (⟨"StackedRows$Writer", "writeSix", "(I)V"⟩, 8) := ⟨⟨by decide +kernel, by decide +kernel⟩, List.mem_of_getElem? (i := 53) (by decide +kernel), List.mem_of_getElem? (i := 499) (by decide +kernel), List.mem_of_getElem? (i := 500) (by decide +kernel)⟩
theorem lw_p11 : lw_okq (⟨"java/lang/Throwable", "fillInStackTrace", "(I)Ljava/lang/Throwable;"⟩, 6) := ⟨⟨by decide +kernel, by decide +kernel⟩, List.mem_of_getElem? (i := 561) (by decide +kernel), List.mem_of_getElem? (i := 559) (by decide +kernel), List.mem_of_getElem? (i := 560) (by decide +kernel)⟩
theorem lw_p12 : lw_okq (⟨"StackedRows", "fillRow", "(I)V"⟩, 7) := ⟨⟨by decide +kernel, by decide +kernel⟩, List.mem_of_getElem? (i := 31) (by decide +kernel), List.mem_of_getElem? (i := 677) (by decide +kernel), List.mem_of_getElem? (i := 678) (by decide +kernel)⟩
theorem lw_p13 : lw_okq (⟨"StackedRows$Checks", "multiplyFactors", "(I)V"⟩, 1) := ⟨⟨by decide +kernel, by decide +kernel⟩, List.mem_of_getElem? (i := 131) (by decide +kernel), List.mem_of_getElem? (i := 685) (by decide +kernel), List.mem_of_getElem? (i := 686) (by decide +kernel)⟩
theorem lw_p14 : lw_okq (⟨"StackedRows$Checks", "divide", "([III)V"⟩, 1) := ⟨⟨by decide +kernel, by decide +kernel⟩, List.mem_of_getElem? (i := 131) (by decide +kernel), List.mem_of_getElem? (i := 692) (by decide +kernel), List.mem_of_getElem? (i := 693) (by decide +kernel)⟩
theorem lw_p15 : lw_okq (⟨"StackedRows$Symbol", "indicated", "(II)I"⟩, 3) := ⟨⟨by decide +kernel, by decide +kernel⟩, List.mem_of_getElem? (i := 141) (by decide +kernel), List.mem_of_getElem? (i := 708) (by decide +kernel), List.mem_of_getElem? (i := 709) (by decide +kernel)⟩
def lw_privs_1 : List (MethodName × Nat) := [(⟨"StackedRows$Writer", "measure", "(I)V"⟩, 8), (⟨"StackedRows$Writer", "writePart", "(I)I"⟩, 8), (⟨"StackedRows$Writer", "writeDigits", "(II)V"⟩, 8), (⟨"StackedRows$Writer", "writeNumber", "(II)V"⟩, 8), (⟨"StackedRows$Writer", "changeToText", "()V"⟩, 8), (⟨"StackedRows$TextWriter", "lookAt", "(IZ)I"⟩, 3), (⟨"StackedRows$TextWriter", "add", "(I)V"⟩, 3), (⟨"StackedRows$TextWriter", "pad", "()V"⟩, 3), (⟨"StackedRows$Writer", "endOfBytes", "(I)I"⟩, 8), (⟨"StackedRows$Writer", "writeBytes", "(II)V"⟩, 8), (⟨"StackedRows$Writer", "writeSix", "(I)V"⟩, 8), (⟨"java/lang/Throwable", "fillInStackTrace", "(I)Ljava/lang/Throwable;"⟩, 6), (⟨"StackedRows", "fillRow", "(I)V"⟩, 7), (⟨"StackedRows$Checks", "multiplyFactors", "(I)V"⟩, 1), (⟨"StackedRows$Checks", "divide", "([III)V"⟩, 1), (⟨"StackedRows$Symbol", "indicated", "(II)I"⟩, 3)]
theorem lw_r1 : ∀ q ∈ lw_privs_1, lw_okq q := List.forall_mem_cons.mpr ⟨lw_p0, List.forall_mem_cons.mpr ⟨lw_p1, List.forall_mem_cons.mpr ⟨lw_p2, List.forall_mem_cons.mpr ⟨lw_p3, List.forall_mem_cons.mpr ⟨lw_p4, List.forall_mem_cons.mpr ⟨lw_p5, List.forall_mem_cons.mpr ⟨lw_p6, List.forall_mem_cons.mpr ⟨lw_p7, List.forall_mem_cons.mpr ⟨lw_p8, List.forall_mem_cons.mpr ⟨lw_p9, List.forall_mem_cons.mpr ⟨lw_p10, List.forall_mem_cons.mpr ⟨lw_p11, List.forall_mem_cons.mpr ⟨lw_p12, List.forall_mem_cons.mpr ⟨lw_p13, List.forall_mem_cons.mpr ⟨lw_p14, List.forall_mem_cons.mpr ⟨lw_p15, fun _ h => absurd h List.not_mem_nil⟩⟩⟩⟩⟩⟩⟩⟩⟩⟩⟩⟩⟩⟩⟩⟩
theorem lw_p16 : lw_okq (⟨"StackedRows$Solver", "hearIndicators", "(LStackedRows$Symbol;)V"⟩, 9) := ⟨⟨by decide +kernel, by decide +kernel⟩, List.mem_of_getElem? (i := 157) (by decide +kernel), List.mem_of_getElem? (i := 781) (by decide +kernel), List.mem_of_getElem? (i := 782) (by decide +kernel)⟩
theorem lw_p17 : lw_okq (⟨"StackedRows$Solver", "hear", "(II)V"⟩, 9) := ⟨⟨by decide +kernel, by decide +kernel⟩, List.mem_of_getElem? (i := 157) (by decide +kernel), List.mem_of_getElem? (i := 792) (by decide +kernel), List.mem_of_getElem? (i := 793) (by decide +kernel)⟩
theorem lw_p18 : lw_okq (⟨"StackedRows$Solver", "mostTold", "(I)I"⟩, 9) := ⟨⟨by decide +kernel, by decide +kernel⟩, List.mem_of_getElem? (i := 157) (by decide +kernel), List.mem_of_getElem? (i := 801) (by decide +kernel), List.mem_of_getElem? (i := 802) (by decide +kernel)⟩
theorem lw_p19 : lw_okq (⟨"StackedRows$Solver", "mendAndRead", "(II)I"⟩, 9) := ⟨⟨by decide +kernel, by decide +kernel⟩, List.mem_of_getElem? (i := 157) (by decide +kernel), List.mem_of_getElem? (i := 811) (by decide +kernel), List.mem_of_getElem? (i := 812) (by decide +kernel)⟩
theorem lw_p20 : lw_okq (⟨"StackedRows$Mender", "copyWithoutLost", "([I)I"⟩, 9) := ⟨⟨by decide +kernel, by decide +kernel⟩, List.mem_of_getElem? (i := 163) (by decide +kernel), List.mem_of_getElem? (i := 819) (by decide +kernel), List.mem_of_getElem? (i := 820) (by decide +kernel)⟩
theorem lw_p21 : lw_okq (⟨"StackedRows$Mender", "sumsAreZero", "()Z"⟩, 9) := ⟨⟨by decide +kernel, by decide +kernel⟩, List.mem_of_getElem? (i := 163) (by decide +kernel), List.mem_of_getElem? (i := 823) (by decide +kernel), List.mem_of_getElem? (i := 824) (by decide +kernel)⟩
theorem lw_p22 : lw_okq (⟨"StackedRows$Mender", "sumAt", "(I)I"⟩, 9) := ⟨⟨by decide +kernel, by decide +kernel⟩, List.mem_of_getElem? (i := 163) (by decide +kernel), List.mem_of_getElem? (i := 827) (by decide +kernel), List.mem_of_getElem? (i := 828) (by decide +kernel)⟩
theorem lw_p23 : lw_okq (⟨"StackedRows$Mender", "locateLost", "([I)V"⟩, 9) := ⟨⟨by decide +kernel, by decide +kernel⟩, List.mem_of_getElem? (i := 163) (by decide +kernel), List.mem_of_getElem? (i := 831) (by decide +kernel), List.mem_of_getElem? (i := 832) (by decide +kernel)⟩
theorem lw_p24 : lw_okq (⟨"StackedRows$Mender", "locateWrong", "(I)V"⟩, 9) := ⟨⟨by decide +kernel, by decide +kernel⟩, List.mem_of_getElem? (i := 163) (by decide +kernel), List.mem_of_getElem? (i := 837) (by decide +kernel), List.mem_of_getElem? (i := 838) (by decide +kernel)⟩
theorem lw_p25 : lw_okq (⟨"StackedRows$Mender", "copy", "([I[I)V"⟩, 9) := ⟨⟨by decide +kernel, by decide +kernel⟩, List.mem_of_getElem? (i := 163) (by decide +kernel), List.mem_of_getElem? (i := 841) (by decide +kernel), List.mem_of_getElem? (i := 842) (by decide +kernel)⟩
theorem lw_p26 : lw_okq (⟨"StackedRows$Mender", "missAt", "(I)I"⟩, 9) := ⟨⟨by decide +kernel, by decide +kernel⟩, List.mem_of_getElem? (i := 163) (by decide +kernel), List.mem_of_getElem? (i := 848) (by decide +kernel), List.mem_of_getElem? (i := 849) (by decide +kernel)⟩
theorem lw_p27 : lw_okq (⟨"StackedRows$Mender", "subtractEarlier", "(III)V"⟩, 9) := ⟨⟨by decide +kernel, by decide +kernel⟩, List.mem_of_getElem? (i := 163) (by decide +kernel), List.mem_of_getElem? (i := 852) (by decide +kernel), List.mem_of_getElem? (i := 853) (by decide +kernel)⟩
theorem lw_p28 : lw_okq (⟨"StackedRows$Mender", "correct", "()Z"⟩, 9) := ⟨⟨by decide +kernel, by decide +kernel⟩, List.mem_of_getElem? (i := 163) (by decide +kernel), List.mem_of_getElem? (i := 862) (by decide +kernel), List.mem_of_getElem? (i := 863) (by decide +kernel)⟩
theorem lw_p29 : lw_okq (⟨"StackedRows$Mender", "prepareEvaluator", "()V"⟩, 9) := ⟨⟨by decide +kernel, by decide +kernel⟩, List.mem_of_getElem? (i := 163) (by decide +kernel), List.mem_of_getElem? (i := 866) (by decide +kernel), List.mem_of_getElem? (i := 867) (by decide +kernel)⟩
theorem lw_p30 : lw_okq (⟨"StackedRows$Mender", "slopeAt", "(I)I"⟩, 9) := ⟨⟨by decide +kernel, by decide +kernel⟩, List.mem_of_getElem? (i := 163) (by decide +kernel), List.mem_of_getElem? (i := 873) (by decide +kernel), List.mem_of_getElem? (i := 874) (by decide +kernel)⟩
theorem lw_p31 : lw_okq (⟨"StackedRows$Mender", "countWrong", "([I)I"⟩, 9) := ⟨⟨by decide +kernel, by decide +kernel⟩, List.mem_of_getElem? (i := 163) (by decide +kernel), List.mem_of_getElem? (i := 877) (by decide +kernel), List.mem_of_getElem? (i := 878) (by decide +kernel)⟩
def lw_privs_2 : List (MethodName × Nat) := [(⟨"StackedRows$Solver", "hearIndicators", "(LStackedRows$Symbol;)V"⟩, 9), (⟨"StackedRows$Solver", "hear", "(II)V"⟩, 9), (⟨"StackedRows$Solver", "mostTold", "(I)I"⟩, 9), (⟨"StackedRows$Solver", "mendAndRead", "(II)I"⟩, 9), (⟨"StackedRows$Mender", "copyWithoutLost", "([I)I"⟩, 9), (⟨"StackedRows$Mender", "sumsAreZero", "()Z"⟩, 9), (⟨"StackedRows$Mender", "sumAt", "(I)I"⟩, 9), (⟨"StackedRows$Mender", "locateLost", "([I)V"⟩, 9), (⟨"StackedRows$Mender", "locateWrong", "(I)V"⟩, 9), (⟨"StackedRows$Mender", "copy", "([I[I)V"⟩, 9), (⟨"StackedRows$Mender", "missAt", "(I)I"⟩, 9), (⟨"StackedRows$Mender", "subtractEarlier", "(III)V"⟩, 9), (⟨"StackedRows$Mender", "correct", "()Z"⟩, 9), (⟨"StackedRows$Mender", "prepareEvaluator", "()V"⟩, 9), (⟨"StackedRows$Mender", "slopeAt", "(I)I"⟩, 9), (⟨"StackedRows$Mender", "countWrong", "([I)I"⟩, 9)]
theorem lw_r2 : ∀ q ∈ lw_privs_2, lw_okq q := List.forall_mem_cons.mpr ⟨lw_p16, List.forall_mem_cons.mpr ⟨lw_p17, List.forall_mem_cons.mpr ⟨lw_p18, List.forall_mem_cons.mpr ⟨lw_p19, List.forall_mem_cons.mpr ⟨lw_p20, List.forall_mem_cons.mpr ⟨lw_p21, List.forall_mem_cons.mpr ⟨lw_p22, List.forall_mem_cons.mpr ⟨lw_p23, List.forall_mem_cons.mpr ⟨lw_p24, List.forall_mem_cons.mpr ⟨lw_p25, List.forall_mem_cons.mpr ⟨lw_p26, List.forall_mem_cons.mpr ⟨lw_p27, List.forall_mem_cons.mpr ⟨lw_p28, List.forall_mem_cons.mpr ⟨lw_p29, List.forall_mem_cons.mpr ⟨lw_p30, List.forall_mem_cons.mpr ⟨lw_p31, fun _ h => absurd h List.not_mem_nil⟩⟩⟩⟩⟩⟩⟩⟩⟩⟩⟩⟩⟩⟩⟩⟩
theorem lw_p32 : lw_okq (⟨"StackedRows$Reader", "changeTo", "(I)V"⟩, 8) := ⟨⟨by decide +kernel, by decide +kernel⟩, List.mem_of_getElem? (i := 199) (by decide +kernel), List.mem_of_getElem? (i := 886) (by decide +kernel), List.mem_of_getElem? (i := 887) (by decide +kernel)⟩
theorem lw_p33 : lw_okq (⟨"StackedRows$Reader", "readPart", "(I)I"⟩, 8) := ⟨⟨by decide +kernel, by decide +kernel⟩, List.mem_of_getElem? (i := 199) (by decide +kernel), List.mem_of_getElem? (i := 890) (by decide +kernel), List.mem_of_getElem? (i := 891) (by decide +kernel)⟩
theorem lw_p34 : lw_okq (⟨"StackedRows$Reader", "readChange", "(II)I"⟩, 8) := ⟨⟨by decide +kernel, by decide +kernel⟩, List.mem_of_getElem? (i := 199) (by decide +kernel), List.mem_of_getElem? (i := 894) (by decide +kernel), List.mem_of_getElem? (i := 895) (by decide +kernel)⟩
theorem lw_p35 : lw_okq (⟨"StackedRows$Reader", "readByte", "(I)I"⟩, 8) := ⟨⟨by decide +kernel, by decide +kernel⟩, List.mem_of_getElem? (i := 199) (by decide +kernel), List.mem_of_getElem? (i := 898) (by decide +kernel), List.mem_of_getElem? (i := 899) (by decide +kernel)⟩
theorem lw_p36 : lw_okq (⟨"StackedRows$Reader", "readDigits", "(I)I"⟩, 8) := ⟨⟨by decide +kernel, by decide +kernel⟩, List.mem_of_getElem? (i := 199) (by decide +kernel), List.mem_of_getElem? (i := 903) (by decide +kernel), List.mem_of_getElem? (i := 904) (by decide +kernel)⟩
theorem lw_p37 : lw_okq (⟨"StackedRows$Reader", "endOfRun", "(II)I"⟩, 8) := ⟨⟨by decide +kernel, by decide +kernel⟩, List.mem_of_getElem? (i := 199) (by decide +kernel), List.mem_of_getElem? (i := 907) (by decide +kernel), List.mem_of_getElem? (i := 908) (by decide +kernel)⟩
theorem lw_p38 : lw_okq (⟨"StackedRows$Reader", "readBytes", "(I)I"⟩, 8) := ⟨⟨by decide +kernel, by decide +kernel⟩, List.mem_of_getElem? (i := 199) (by decide +kernel), List.mem_of_getElem? (i := 915) (by decide +kernel), List.mem_of_getElem? (i := 916) (by decide +kernel)⟩
theorem lw_p39 : lw_okq (⟨"StackedRows$Reader", "readNumber", "(I)V"⟩, 8) := ⟨⟨by decide +kernel, by decide +kernel⟩, List.mem_of_getElem? (i := 199) (by decide +kernel), List.mem_of_getElem? (i := 921) (by decide +kernel), List.mem_of_getElem? (i := 922) (by decide +kernel)⟩
theorem lw_p40 : lw_okq (⟨"StackedRowsModel", "writeAll", "()V"⟩, 32) := ⟨⟨by decide +kernel, by decide +kernel⟩, List.mem_of_getElem? (i := 990) (by decide +kernel), List.mem_of_getElem? (i := 1102) (by decide +kernel), List.mem_of_getElem? (i := 1103) (by decide +kernel)⟩
theorem lw_p41 : lw_okq (⟨"StackedRowsModel", "digitsFrom", "(I)I"⟩, 32) := ⟨⟨by decide +kernel, by decide +kernel⟩, List.mem_of_getElem? (i := 990) (by decide +kernel), List.mem_of_getElem? (i := 1106) (by decide +kernel), List.mem_of_getElem? (i := 1107) (by decide +kernel)⟩
theorem lw_p42 : lw_okq (⟨"StackedRowsModel", "textFrom", "(I)I"⟩, 32) := ⟨⟨by decide +kernel, by decide +kernel⟩, List.mem_of_getElem? (i := 990) (by decide +kernel), List.mem_of_getElem? (i := 1113) (by decide +kernel), List.mem_of_getElem? (i := 1114) (by decide +kernel)⟩
theorem lw_p43 : lw_okq (⟨"StackedRowsModel", "word", "(I)V"⟩, 32) := ⟨⟨by decide +kernel, by decide +kernel⟩, List.mem_of_getElem? (i := 990) (by decide +kernel), List.mem_of_getElem? (i := 1120) (by decide +kernel), List.mem_of_getElem? (i := 1121) (by decide +kernel)⟩
theorem lw_p44 : lw_okq (⟨"StackedRowsModel", "writeDigits", "(II)V"⟩, 32) := ⟨⟨by decide +kernel, by decide +kernel⟩, List.mem_of_getElem? (i := 990) (by decide +kernel), List.mem_of_getElem? (i := 1124) (by decide +kernel), List.mem_of_getElem? (i := 1125) (by decide +kernel)⟩
theorem lw_p45 : lw_okq (⟨"StackedRowsModel", "writeText", "(II)V"⟩, 32) := ⟨⟨by decide +kernel, by decide +kernel⟩, List.mem_of_getElem? (i := 990) (by decide +kernel), List.mem_of_getElem? (i := 1128) (by decide +kernel), List.mem_of_getElem? (i := 1129) (by decide +kernel)⟩
theorem lw_p46 : lw_okq (⟨"StackedRowsModel", "numberIn", "(II)I"⟩, 32) := ⟨⟨by decide +kernel, by decide +kernel⟩, List.mem_of_getElem? (i := 990) (by decide +kernel), List.mem_of_getElem? (i := 1132) (by decide +kernel), List.mem_of_getElem? (i := 1133) (by decide +kernel)⟩
theorem lw_p47 : lw_okq (⟨"StackedRowsModel", "number", "(I)V"⟩, 32) := ⟨⟨by decide +kernel, by decide +kernel⟩, List.mem_of_getElem? (i := 990) (by decide +kernel), List.mem_of_getElem? (i := 1136) (by decide +kernel), List.mem_of_getElem? (i := 1137) (by decide +kernel)⟩
def lw_privs_3 : List (MethodName × Nat) := [(⟨"StackedRows$Reader", "changeTo", "(I)V"⟩, 8), (⟨"StackedRows$Reader", "readPart", "(I)I"⟩, 8), (⟨"StackedRows$Reader", "readChange", "(II)I"⟩, 8), (⟨"StackedRows$Reader", "readByte", "(I)I"⟩, 8), (⟨"StackedRows$Reader", "readDigits", "(I)I"⟩, 8), (⟨"StackedRows$Reader", "endOfRun", "(II)I"⟩, 8), (⟨"StackedRows$Reader", "readBytes", "(I)I"⟩, 8), (⟨"StackedRows$Reader", "readNumber", "(I)V"⟩, 8), (⟨"StackedRowsModel", "writeAll", "()V"⟩, 32), (⟨"StackedRowsModel", "digitsFrom", "(I)I"⟩, 32), (⟨"StackedRowsModel", "textFrom", "(I)I"⟩, 32), (⟨"StackedRowsModel", "word", "(I)V"⟩, 32), (⟨"StackedRowsModel", "writeDigits", "(II)V"⟩, 32), (⟨"StackedRowsModel", "writeText", "(II)V"⟩, 32), (⟨"StackedRowsModel", "numberIn", "(II)I"⟩, 32), (⟨"StackedRowsModel", "number", "(I)V"⟩, 32)]
theorem lw_r3 : ∀ q ∈ lw_privs_3, lw_okq q := List.forall_mem_cons.mpr ⟨lw_p32, List.forall_mem_cons.mpr ⟨lw_p33, List.forall_mem_cons.mpr ⟨lw_p34, List.forall_mem_cons.mpr ⟨lw_p35, List.forall_mem_cons.mpr ⟨lw_p36, List.forall_mem_cons.mpr ⟨lw_p37, List.forall_mem_cons.mpr ⟨lw_p38, List.forall_mem_cons.mpr ⟨lw_p39, List.forall_mem_cons.mpr ⟨lw_p40, List.forall_mem_cons.mpr ⟨lw_p41, List.forall_mem_cons.mpr ⟨lw_p42, List.forall_mem_cons.mpr ⟨lw_p43, List.forall_mem_cons.mpr ⟨lw_p44, List.forall_mem_cons.mpr ⟨lw_p45, List.forall_mem_cons.mpr ⟨lw_p46, List.forall_mem_cons.mpr ⟨lw_p47, fun _ h => absurd h List.not_mem_nil⟩⟩⟩⟩⟩⟩⟩⟩⟩⟩⟩⟩⟩⟩⟩⟩
theorem lw_p48 : lw_okq (⟨"StackedRowsModel", "change", "(II)V"⟩, 32) := ⟨⟨by decide +kernel, by decide +kernel⟩, List.mem_of_getElem? (i := 990) (by decide +kernel), List.mem_of_getElem? (i := 1140) (by decide +kernel), List.mem_of_getElem? (i := 1141) (by decide +kernel)⟩
theorem lw_p49 : lw_okq (⟨"StackedRowsModel", "bytesFrom", "(I)I"⟩, 32) := ⟨⟨by decide +kernel, by decide +kernel⟩, List.mem_of_getElem? (i := 990) (by decide +kernel), List.mem_of_getElem? (i := 1144) (by decide +kernel), List.mem_of_getElem? (i := 1145) (by decide +kernel)⟩
theorem lw_p50 : lw_okq (⟨"StackedRowsModel", "writeBytes", "(II)V"⟩, 32) := ⟨⟨by decide +kernel, by decide +kernel⟩, List.mem_of_getElem? (i := 990) (by decide +kernel), List.mem_of_getElem? (i := 1148) (by decide +kernel), List.mem_of_getElem? (i := 1149) (by decide +kernel)⟩
theorem lw_p51 : lw_okq (⟨"StackedRowsModel", "makeChecks", "(II)V"⟩, 32) := ⟨⟨by decide +kernel, by decide +kernel⟩, List.mem_of_getElem? (i := 990) (by decide +kernel), List.mem_of_getElem? (i := 1163) (by decide +kernel), List.mem_of_getElem? (i := 1164) (by decide +kernel)⟩
theorem lw_p52 : lw_okq (⟨"StackedRowsModel", "placeOf", "(I)I"⟩, 32) := ⟨⟨by decide +kernel, by decide +kernel⟩, List.mem_of_getElem? (i := 990) (by decide +kernel), List.mem_of_getElem? (i := 1167) (by decide +kernel), List.mem_of_getElem? (i := 1168) (by decide +kernel)⟩
theorem lw_p53 : lw_okq (⟨"StackedRowsModel", "at", "(II)I"⟩, 32) := ⟨⟨by decide +kernel, by decide +kernel⟩, List.mem_of_getElem? (i := 990) (by decide +kernel), List.mem_of_getElem? (i := 1171) (by decide +kernel), List.mem_of_getElem? (i := 1172) (by decide +kernel)⟩
theorem lw_p54 : lw_okq (⟨"StackedRowsModel", "indicator", "(IZI)I"⟩, 32) := ⟨⟨by decide +kernel, by decide +kernel⟩, List.mem_of_getElem? (i := 990) (by decide +kernel), List.mem_of_getElem? (i := 1175) (by decide +kernel), List.mem_of_getElem? (i := 1176) (by decide +kernel)⟩
theorem lw_p55 : lw_okq (⟨"StackedRowsModel", "isPlace", "(II)Z"⟩, 32) := ⟨⟨by decide +kernel, by decide +kernel⟩, List.mem_of_getElem? (i := 990) (by decide +kernel), List.mem_of_getElem? (i := 1187) (by decide +kernel), List.mem_of_getElem? (i := 1188) (by decide +kernel)⟩
theorem lw_p56 : lw_okq (⟨"StackedRowsModel", "solveAll", "()Z"⟩, 32) := ⟨⟨by decide +kernel, by decide +kernel⟩, List.mem_of_getElem? (i := 990) (by decide +kernel), List.mem_of_getElem? (i := 1199) (by decide +kernel), List.mem_of_getElem? (i := 1200) (by decide +kernel)⟩
theorem lw_p57 : lw_okq (⟨"StackedRowsModel", "toldFor", "(I)I"⟩, 32) := ⟨⟨by decide +kernel, by decide +kernel⟩, List.mem_of_getElem? (i := 990) (by decide +kernel), List.mem_of_getElem? (i := 1203) (by decide +kernel), List.mem_of_getElem? (i := 1204) (by decide +kernel)⟩
theorem lw_p58 : lw_okq (⟨"StackedRowsModel", "repair", "(II)Z"⟩, 32) := ⟨⟨by decide +kernel, by decide +kernel⟩, List.mem_of_getElem? (i := 990) (by decide +kernel), List.mem_of_getElem? (i := 1207) (by decide +kernel), List.mem_of_getElem? (i := 1208) (by decide +kernel)⟩
theorem lw_p59 : lw_okq (⟨"StackedRowsModel", "makeSums", "(II)Z"⟩, 32) := ⟨⟨by decide +kernel, by decide +kernel⟩, List.mem_of_getElem? (i := 990) (by decide +kernel), List.mem_of_getElem? (i := 1211) (by decide +kernel), List.mem_of_getElem? (i := 1212) (by decide +kernel)⟩
theorem lw_p60 : lw_okq (⟨"StackedRowsModel", "locator", "(II)I"⟩, 32) := ⟨⟨by decide +kernel, by decide +kernel⟩, List.mem_of_getElem? (i := 990) (by decide +kernel), List.mem_of_getElem? (i := 1218) (by decide +kernel), List.mem_of_getElem? (i := 1219) (by decide +kernel)⟩
theorem lw_p61 : lw_okq (⟨"StackedRowsModel", "divide", "(II)V"⟩, 32) := ⟨⟨by decide +kernel, by decide +kernel⟩, List.mem_of_getElem? (i := 990) (by decide +kernel), List.mem_of_getElem? (i := 1225) (by decide +kernel), List.mem_of_getElem? (i := 1226) (by decide +kernel)⟩
theorem lw_p62 : lw_okq (⟨"StackedRowsModel", "setRight", "(II)Z"⟩, 32) := ⟨⟨by decide +kernel, by decide +kernel⟩, List.mem_of_getElem? (i := 990) (by decide +kernel), List.mem_of_getElem? (i := 1241) (by decide +kernel), List.mem_of_getElem? (i := 1242) (by decide +kernel)⟩
theorem lw_p63 : lw_okq (⟨"StackedRowsModel", "readAll", "(I)Z"⟩, 32) := ⟨⟨by decide +kernel, by decide +kernel⟩, List.mem_of_getElem? (i := 990) (by decide +kernel), List.mem_of_getElem? (i := 1245) (by decide +kernel), List.mem_of_getElem? (i := 1246) (by decide +kernel)⟩
def lw_privs_4 : List (MethodName × Nat) := [(⟨"StackedRowsModel", "change", "(II)V"⟩, 32), (⟨"StackedRowsModel", "bytesFrom", "(I)I"⟩, 32), (⟨"StackedRowsModel", "writeBytes", "(II)V"⟩, 32), (⟨"StackedRowsModel", "makeChecks", "(II)V"⟩, 32), (⟨"StackedRowsModel", "placeOf", "(I)I"⟩, 32), (⟨"StackedRowsModel", "at", "(II)I"⟩, 32), (⟨"StackedRowsModel", "indicator", "(IZI)I"⟩, 32), (⟨"StackedRowsModel", "isPlace", "(II)Z"⟩, 32), (⟨"StackedRowsModel", "solveAll", "()Z"⟩, 32), (⟨"StackedRowsModel", "toldFor", "(I)I"⟩, 32), (⟨"StackedRowsModel", "repair", "(II)Z"⟩, 32), (⟨"StackedRowsModel", "makeSums", "(II)Z"⟩, 32), (⟨"StackedRowsModel", "locator", "(II)I"⟩, 32), (⟨"StackedRowsModel", "divide", "(II)V"⟩, 32), (⟨"StackedRowsModel", "setRight", "(II)Z"⟩, 32), (⟨"StackedRowsModel", "readAll", "(I)Z"⟩, 32)]
theorem lw_r4 : ∀ q ∈ lw_privs_4, lw_okq q := List.forall_mem_cons.mpr ⟨lw_p48, List.forall_mem_cons.mpr ⟨lw_p49, List.forall_mem_cons.mpr ⟨lw_p50, List.forall_mem_cons.mpr ⟨lw_p51, List.forall_mem_cons.mpr ⟨lw_p52, List.forall_mem_cons.mpr ⟨lw_p53, List.forall_mem_cons.mpr ⟨lw_p54, List.forall_mem_cons.mpr ⟨lw_p55, List.forall_mem_cons.mpr ⟨lw_p56, List.forall_mem_cons.mpr ⟨lw_p57, List.forall_mem_cons.mpr ⟨lw_p58, List.forall_mem_cons.mpr ⟨lw_p59, List.forall_mem_cons.mpr ⟨lw_p60, List.forall_mem_cons.mpr ⟨lw_p61, List.forall_mem_cons.mpr ⟨lw_p62, List.forall_mem_cons.mpr ⟨lw_p63, fun _ h => absurd h List.not_mem_nil⟩⟩⟩⟩⟩⟩⟩⟩⟩⟩⟩⟩⟩⟩⟩⟩
theorem lw_p64 : lw_okq (⟨"StackedRowsModel", "fail", "(I)Z"⟩, 32) := ⟨⟨by decide +kernel, by decide +kernel⟩, List.mem_of_getElem? (i := 990) (by decide +kernel), List.mem_of_getElem? (i := 1249) (by decide +kernel), List.mem_of_getElem? (i := 1250) (by decide +kernel)⟩
theorem lw_p65 : lw_okq (⟨"StackedRowsModel", "byteOut", "(I)V"⟩, 32) := ⟨⟨by decide +kernel, by decide +kernel⟩, List.mem_of_getElem? (i := 990) (by decide +kernel), List.mem_of_getElem? (i := 1253) (by decide +kernel), List.mem_of_getElem? (i := 1254) (by decide +kernel)⟩
theorem lw_p66 : lw_okq (⟨"StackedRowsModel", "readNumber", "(I)V"⟩, 32) := ⟨⟨by decide +kernel, by decide +kernel⟩, List.mem_of_getElem? (i := 990) (by decide +kernel), List.mem_of_getElem? (i := 1257) (by decide +kernel), List.mem_of_getElem? (i := 1258) (by decide +kernel)⟩
theorem lw_p67 : lw_okq (⟨"StackedRowsModel", "run", "(II)I"⟩, 32) := ⟨⟨by decide +kernel, by decide +kernel⟩, List.mem_of_getElem? (i := 990) (by decide +kernel), List.mem_of_getElem? (i := 1261) (by decide +kernel), List.mem_of_getElem? (i := 1262) (by decide +kernel)⟩
theorem lw_p68 : lw_okq (⟨"StackedRowsModel", "readDigits", "(II)Z"⟩, 32) := ⟨⟨by decide +kernel, by decide +kernel⟩, List.mem_of_getElem? (i := 990) (by decide +kernel), List.mem_of_getElem? (i := 1265) (by decide +kernel), List.mem_of_getElem? (i := 1266) (by decide +kernel)⟩
theorem lw_p69 : lw_okq (⟨"StackedRowsModel", "readBytes", "(IIZ)Z"⟩, 32) := ⟨⟨by decide +kernel, by decide +kernel⟩, List.mem_of_getElem? (i := 990) (by decide +kernel), List.mem_of_getElem? (i := 1269) (by decide +kernel), List.mem_of_getElem? (i := 1270) (by decide +kernel)⟩
def lw_privs_5 : List (MethodName × Nat) := [(⟨"StackedRowsModel", "fail", "(I)Z"⟩, 32), (⟨"StackedRowsModel", "byteOut", "(I)V"⟩, 32), (⟨"StackedRowsModel", "readNumber", "(I)V"⟩, 32), (⟨"StackedRowsModel", "run", "(II)I"⟩, 32), (⟨"StackedRowsModel", "readDigits", "(II)Z"⟩, 32), (⟨"StackedRowsModel", "readBytes", "(IIZ)Z"⟩, 32)]
theorem lw_r5 : ∀ q ∈ lw_privs_5, lw_okq q := List.forall_mem_cons.mpr ⟨lw_p64, List.forall_mem_cons.mpr ⟨lw_p65, List.forall_mem_cons.mpr ⟨lw_p66, List.forall_mem_cons.mpr ⟨lw_p67, List.forall_mem_cons.mpr ⟨lw_p68, List.forall_mem_cons.mpr ⟨lw_p69, fun _ h => absurd h List.not_mem_nil⟩⟩⟩⟩⟩⟩
def lw_privs : List (MethodName × Nat) := lw_privs_1 ++ (lw_privs_2 ++ (lw_privs_3 ++ (lw_privs_4 ++ (lw_privs_5))))
def lw_tbl : List Cond := k2_sels lw_privs ++ tables_1
theorem lw_privs_ok : ∀ q ∈ lw_privs, lw_okq q := by
  show ∀ q ∈ lw_privs_1 ++ (lw_privs_2 ++ (lw_privs_3 ++ (lw_privs_4 ++ (lw_privs_5)))), lw_okq q
  exact List.forall_mem_append.mpr ⟨lw_r1, List.forall_mem_append.mpr ⟨lw_r2, List.forall_mem_append.mpr ⟨lw_r3, List.forall_mem_append.mpr ⟨lw_r4, lw_r5⟩⟩⟩⟩
def tk_T0 : u_T := fun k => match k with
  | 0 => ("StackedRows", "tape", "LStackedRows$Tape;", true)
  | 1 => ("StackedRows", "writer", "LStackedRows$Writer;", true)
  | 2 => ("StackedRows", "checks", "LStackedRows$Checks;", true)
  | 3 => ("StackedRows", "symbol", "LStackedRows$Symbol;", true)
  | 4 => ("StackedRows", "solver", "LStackedRows$Solver;", true)
  | 5 => ("StackedRows", "row", "[I", true)
  | _ => ("StackedRows", "latest", "[I", true)
def tk_y0 : Nat → FieldType := fun k => match k with
  | 0 => .object "StackedRows$Tape"
  | 1 => .object "StackedRows$Writer"
  | 2 => .object "StackedRows$Checks"
  | 3 => .object "StackedRows$Symbol"
  | 4 => .object "StackedRows$Solver"
  | 5 => .array .int
  | _ => .array .int
theorem tk_n0 : ∀ a, a < 7 → ∀ b, b < 7 → a ≠ b → (tk_T0 a).2.1 ≠ (tk_T0 b).2.1 := by decide +kernel
theorem tk_o0 : ∀ k, k < 7 → parseFieldDescriptor (tk_T0 k).2.2.1 = some (tk_y0 k) := by decide +kernel
def tk_T1 : u_T := fun k => match k with
  | 0 => ("StackedRows$BigNumber", "base", "I", true)
  | _ => ("StackedRows$BigNumber", "cells", "[I", true)
def tk_y1 : Nat → FieldType := fun k => match k with
  | 0 => .int
  | _ => .array .int
theorem tk_n1 : ∀ a, a < 2 → ∀ b, b < 2 → a ≠ b → (tk_T1 a).2.1 ≠ (tk_T1 b).2.1 := by decide +kernel
theorem tk_o1 : ∀ k, k < 2 → parseFieldDescriptor (tk_T1 k).2.2.1 = some (tk_y1 k) := by decide +kernel
def tk_T2 : u_T := fun k => match k with
  | _ => ("StackedRows$Checks", "factors", "[I", true)
def tk_y2 : Nat → FieldType := fun k => match k with
  | _ => .array .int
theorem tk_n2 : ∀ a, a < 1 → ∀ b, b < 1 → a ≠ b → (tk_T2 a).2.1 ≠ (tk_T2 b).2.1 := by decide +kernel
theorem tk_o2 : ∀ k, k < 1 → parseFieldDescriptor (tk_T2 k).2.2.1 = some (tk_y2 k) := by decide +kernel
def tk_T3 : u_T := fun k => match k with
  | 0 => ("StackedRows$Codewords", "cells", "[I", true)
  | _ => ("StackedRows$Codewords", "size", "I", false)
def tk_y3 : Nat → FieldType := fun k => match k with
  | 0 => .array .int
  | _ => .int
theorem tk_n3 : ∀ a, a < 2 → ∀ b, b < 2 → a ≠ b → (tk_T3 a).2.1 ≠ (tk_T3 b).2.1 := by decide +kernel
theorem tk_o3 : ∀ k, k < 2 → parseFieldDescriptor (tk_T3 k).2.2.1 = some (tk_y3 k) := by decide +kernel
def tk_T4 : u_T := fun k => match k with
  | 0 => ("StackedRows$Mender", "mended", "[I", true)
  | 1 => ("StackedRows$Mender", "sums", "[I", true)
  | 2 => ("StackedRows$Mender", "locator", "[I", true)
  | 3 => ("StackedRows$Mender", "earlier", "[I", true)
  | 4 => ("StackedRows$Mender", "kept", "[I", true)
  | 5 => ("StackedRows$Mender", "evaluator", "[I", true)
  | 6 => ("StackedRows$Mender", "n", "I", false)
  | 7 => ("StackedRows$Mender", "k", "I", false)
  | _ => ("StackedRows$Mender", "degree", "I", false)
def tk_y4 : Nat → FieldType := fun k => match k with
  | 0 => .array .int
  | 1 => .array .int
  | 2 => .array .int
  | 3 => .array .int
  | 4 => .array .int
  | 5 => .array .int
  | 6 => .int
  | 7 => .int
  | _ => .int
theorem tk_n4 : ∀ a, a < 9 → ∀ b, b < 9 → a ≠ b → (tk_T4 a).2.1 ≠ (tk_T4 b).2.1 := by decide +kernel
theorem tk_o4 : ∀ k, k < 9 → parseFieldDescriptor (tk_T4 k).2.2.1 = some (tk_y4 k) := by decide +kernel
def tk_T5 : u_T := fun k => match k with
  | 0 => ("StackedRows$Reader", "row", "[I", true)
  | 1 => ("StackedRows$Reader", "out", "LStackedRows$Tape;", true)
  | 2 => ("StackedRows$Reader", "number", "LStackedRows$BigNumber;", true)
  | 3 => ("StackedRows$Reader", "upTo", "I", false)
  | 4 => ("StackedRows$Reader", "way", "I", false)
  | 5 => ("StackedRows$Reader", "set", "LStackedRows$Letters;", false)
  | 6 => ("StackedRows$Reader", "alone", "LStackedRows$Letters;", false)
  | _ => ("StackedRows$Reader", "faultAt", "I", false)
def tk_y5 : Nat → FieldType := fun k => match k with
  | 0 => .array .int
  | 1 => .object "StackedRows$Tape"
  | 2 => .object "StackedRows$BigNumber"
  | 3 => .int
  | 4 => .int
  | 5 => .object "StackedRows$Letters"
  | 6 => .object "StackedRows$Letters"
  | _ => .int
theorem tk_n5 : ∀ a, a < 8 → ∀ b, b < 8 → a ≠ b → (tk_T5 a).2.1 ≠ (tk_T5 b).2.1 := by decide +kernel
theorem tk_o5 : ∀ k, k < 8 → parseFieldDescriptor (tk_T5 k).2.2.1 = some (tk_y5 k) := by decide +kernel
def tk_T6 : u_T := fun k => match k with
  | 0 => ("StackedRows$Solver", "told", "[I", true)
  | 1 => ("StackedRows$Solver", "row", "[I", true)
  | 2 => ("StackedRows$Solver", "mended", "[I", true)
  | 3 => ("StackedRows$Solver", "mender", "LStackedRows$Mender;", true)
  | 4 => ("StackedRows$Solver", "bytes", "LStackedRows$Tape;", true)
  | 5 => ("StackedRows$Solver", "reader", "LStackedRows$Reader;", true)
  | 6 => ("StackedRows$Solver", "faultAt", "I", false)
  | 7 => ("StackedRows$Solver", "wrong", "I", false)
  | _ => ("StackedRows$Solver", "level", "I", false)
def tk_y6 : Nat → FieldType := fun k => match k with
  | 0 => .array .int
  | 1 => .array .int
  | 2 => .array .int
  | 3 => .object "StackedRows$Mender"
  | 4 => .object "StackedRows$Tape"
  | 5 => .object "StackedRows$Reader"
  | 6 => .int
  | 7 => .int
  | _ => .int
theorem tk_n6 : ∀ a, a < 9 → ∀ b, b < 9 → a ≠ b → (tk_T6 a).2.1 ≠ (tk_T6 b).2.1 := by decide +kernel
theorem tk_o6 : ∀ k, k < 9 → parseFieldDescriptor (tk_T6 k).2.2.1 = some (tk_y6 k) := by decide +kernel
def tk_T7 : u_T := fun k => match k with
  | 0 => ("StackedRows$Symbol", "places", "[I", true)
  | 1 => ("StackedRows$Symbol", "rows", "I", false)
  | _ => ("StackedRows$Symbol", "columns", "I", false)
def tk_y7 : Nat → FieldType := fun k => match k with
  | 0 => .array .int
  | 1 => .int
  | _ => .int
theorem tk_n7 : ∀ a, a < 3 → ∀ b, b < 3 → a ≠ b → (tk_T7 a).2.1 ≠ (tk_T7 b).2.1 := by decide +kernel
theorem tk_o7 : ∀ k, k < 3 → parseFieldDescriptor (tk_T7 k).2.2.1 = some (tk_y7 k) := by decide +kernel
def tk_T8 : u_T := fun k => match k with
  | 0 => ("StackedRows$Tape", "bytes", "[I", true)
  | _ => ("StackedRows$Tape", "size", "I", false)
def tk_y8 : Nat → FieldType := fun k => match k with
  | 0 => .array .int
  | _ => .int
theorem tk_n8 : ∀ a, a < 2 → ∀ b, b < 2 → a ≠ b → (tk_T8 a).2.1 ≠ (tk_T8 b).2.1 := by decide +kernel
theorem tk_o8 : ∀ k, k < 2 → parseFieldDescriptor (tk_T8 k).2.2.1 = some (tk_y8 k) := by decide +kernel
def tk_T9 : u_T := fun k => match k with
  | 0 => ("StackedRows$TextWriter", "out", "LStackedRows$Codewords;", true)
  | 1 => ("StackedRows$TextWriter", "set", "LStackedRows$Letters;", false)
  | _ => ("StackedRows$TextWriter", "half", "I", false)
def tk_y9 : Nat → FieldType := fun k => match k with
  | 0 => .object "StackedRows$Codewords"
  | 1 => .object "StackedRows$Letters"
  | _ => .int
theorem tk_n9 : ∀ a, a < 3 → ∀ b, b < 3 → a ≠ b → (tk_T9 a).2.1 ≠ (tk_T9 b).2.1 := by decide +kernel
theorem tk_o9 : ∀ k, k < 3 → parseFieldDescriptor (tk_T9 k).2.2.1 = some (tk_y9 k) := by decide +kernel
def tk_T10 : u_T := fun k => match k with
  | 0 => ("StackedRows$Writer", "tape", "LStackedRows$Tape;", true)
  | 1 => ("StackedRows$Writer", "out", "LStackedRows$Codewords;", true)
  | 2 => ("StackedRows$Writer", "text", "LStackedRows$TextWriter;", true)
  | 3 => ("StackedRows$Writer", "number", "LStackedRows$BigNumber;", true)
  | 4 => ("StackedRows$Writer", "digits", "[I", true)
  | 5 => ("StackedRows$Writer", "texts", "[I", true)
  | 6 => ("StackedRows$Writer", "way", "I", false)
  | _ => ("StackedRows$Writer", "fresh", "Z", false)
def tk_y10 : Nat → FieldType := fun k => match k with
  | 0 => .object "StackedRows$Tape"
  | 1 => .object "StackedRows$Codewords"
  | 2 => .object "StackedRows$TextWriter"
  | 3 => .object "StackedRows$BigNumber"
  | 4 => .array .int
  | 5 => .array .int
  | 6 => .int
  | _ => .boolean
theorem tk_n10 : ∀ a, a < 8 → ∀ b, b < 8 → a ≠ b → (tk_T10 a).2.1 ≠ (tk_T10 b).2.1 := by decide +kernel
theorem tk_o10 : ∀ k, k < 8 → parseFieldDescriptor (tk_T10 k).2.2.1 = some (tk_y10 k) := by decide +kernel
def tk_T11 : u_T := fun k => match k with
  | 0 => ("StackedRowsModel", "thrown", "I", false)
  | 1 => ("StackedRowsModel", "tape", "[I", true)
  | 2 => ("StackedRowsModel", "tapeSize", "I", false)
  | 3 => ("StackedRowsModel", "words", "[I", true)
  | 4 => ("StackedRowsModel", "wordCount", "I", false)
  | 5 => ("StackedRowsModel", "set", "I", false)
  | 6 => ("StackedRowsModel", "waits", "I", false)
  | 7 => ("StackedRowsModel", "mixed", "[I", true)
  | 8 => ("StackedRowsModel", "signs", "[I", true)
  | 9 => ("StackedRowsModel", "rows", "I", false)
  | 10 => ("StackedRowsModel", "columns", "I", false)
  | 11 => ("StackedRowsModel", "places", "[I", true)
  | 12 => ("StackedRowsModel", "fault", "I", false)
  | 13 => ("StackedRowsModel", "faultAt", "I", false)
  | 14 => ("StackedRowsModel", "wrong", "I", false)
  | 15 => ("StackedRowsModel", "told", "I", false)
  | 16 => ("StackedRowsModel", "row", "[I", true)
  | 17 => ("StackedRowsModel", "lost", "[Z", true)
  | 18 => ("StackedRowsModel", "powers", "[I", true)
  | 19 => ("StackedRowsModel", "sums", "[I", true)
  | 20 => ("StackedRowsModel", "counted", "[I", true)
  | 21 => ("StackedRowsModel", "gone", "[I", true)
  | 22 => ("StackedRowsModel", "above", "[I", true)
  | 23 => ("StackedRowsModel", "below", "[I", true)
  | 24 => ("StackedRowsModel", "old", "[I", true)
  | 25 => ("StackedRowsModel", "now", "[I", true)
  | 26 => ("StackedRowsModel", "work", "[I", true)
  | 27 => ("StackedRowsModel", "isWrong", "[Z", true)
  | 28 => ("StackedRowsModel", "out", "[I", true)
  | 29 => ("StackedRowsModel", "outSize", "I", false)
  | 30 => ("StackedRowsModel", "digits", "[I", true)
  | _ => ("StackedRowsModel", "alone", "I", false)
def tk_y11 : Nat → FieldType := fun k => match k with
  | 0 => .int
  | 1 => .array .int
  | 2 => .int
  | 3 => .array .int
  | 4 => .int
  | 5 => .int
  | 6 => .int
  | 7 => .array .int
  | 8 => .array .int
  | 9 => .int
  | 10 => .int
  | 11 => .array .int
  | 12 => .int
  | 13 => .int
  | 14 => .int
  | 15 => .int
  | 16 => .array .int
  | 17 => .array .boolean
  | 18 => .array .int
  | 19 => .array .int
  | 20 => .array .int
  | 21 => .array .int
  | 22 => .array .int
  | 23 => .array .int
  | 24 => .array .int
  | 25 => .array .int
  | 26 => .array .int
  | 27 => .array .boolean
  | 28 => .array .int
  | 29 => .int
  | 30 => .array .int
  | _ => .int
theorem tk_n11 : ∀ a, a < 32 → ∀ b, b < 32 → a ≠ b → (tk_T11 a).2.1 ≠ (tk_T11 b).2.1 := by decide +kernel
theorem tk_o11 : ∀ k, k < 32 → parseFieldDescriptor (tk_T11 k).2.2.1 = some (tk_y11 k) := by decide +kernel
abbrev vwCl : List vw_C := [("StackedRows", tk_T0, 7), ("StackedRows$BigNumber", tk_T1, 2), ("StackedRows$Checks", tk_T2, 1), ("StackedRows$Codewords", tk_T3, 2), ("StackedRows$Mender", tk_T4, 9), ("StackedRows$Reader", tk_T5, 8), ("StackedRows$Solver", tk_T6, 9), ("StackedRows$Symbol", tk_T7, 3), ("StackedRows$Tape", tk_T8, 2), ("StackedRows$TextWriter", tk_T9, 3), ("StackedRows$Writer", tk_T10, 8), ("StackedRowsModel", tk_T11, 32)]
def yy_TP_init : MethodName := ⟨"StackedRows$Tape", "<init>", "()V"⟩
abbrev cd_TP_init : ByteArray := prog_10_method_1_code
def yy_TP_size : MethodName := ⟨"StackedRows$Tape", "size", "()I"⟩
abbrev cd_TP_size : ByteArray := prog_10_method_2_code
def yy_TP_add : MethodName := ⟨"StackedRows$Tape", "add", "(I)V"⟩
abbrev cd_TP_add : ByteArray := prog_10_method_4_code
def yy_TP_addFour : MethodName := ⟨"StackedRows$Tape", "addFour", "(I)V"⟩
abbrev cd_TP_addFour : ByteArray := prog_10_method_5_code
def yy_TP_cut : MethodName := ⟨"StackedRows$Tape", "cut", "(I)V"⟩
abbrev cd_TP_cut : ByteArray := prog_10_method_6_code
def yy_CW_init : MethodName := ⟨"StackedRows$Codewords", "<init>", "()V"⟩
abbrev cd_CW_init : ByteArray := prog_4_method_1_code
def yy_CW_size : MethodName := ⟨"StackedRows$Codewords", "size", "()I"⟩
abbrev cd_CW_size : ByteArray := prog_4_method_2_code
def yy_CW_clear : MethodName := ⟨"StackedRows$Codewords", "clear", "()V"⟩
abbrev cd_CW_clear : ByteArray := prog_4_method_5_code
def yy_BN_init : MethodName := ⟨"StackedRows$BigNumber", "<init>", "(II)V"⟩
abbrev cd_BN_init : ByteArray := prog_2_method_1_code
def yy_TW_init : MethodName := ⟨"StackedRows$TextWriter", "<init>", "(LStackedRows$Codewords;)V"⟩
abbrev cd_TW_init : ByteArray := prog_11_method_1_code
def yy_TW_beginWithCapitals : MethodName := ⟨"StackedRows$TextWriter", "beginWithCapitals", "()V"⟩
abbrev cd_TW_beginWithCapitals : ByteArray := prog_11_method_2_code
def yy_WR_init : MethodName := ⟨"StackedRows$Writer", "<init>", "(LStackedRows$Tape;)V"⟩
abbrev cd_WR_init : ByteArray := prog_12_method_1_code
def yy_WR_forget : MethodName := ⟨"StackedRows$Writer", "forget", "()V"⟩
abbrev cd_WR_forget : ByteArray := prog_12_method_2_code
def yy_WR_size : MethodName := ⟨"StackedRows$Writer", "size", "()I"⟩
abbrev cd_WR_size : ByteArray := prog_12_method_3_code
def yy_WR_measure : MethodName := ⟨"StackedRows$Writer", "measure", "(I)V"⟩
abbrev cd_WR_measure : ByteArray := prog_12_method_6_code
def yy_WR_write : MethodName := ⟨"StackedRows$Writer", "write", "()V"⟩
abbrev cd_WR_write : ByteArray := prog_12_method_5_code
def yy_SY_init : MethodName := ⟨"StackedRows$Symbol", "<init>", "()V"⟩
abbrev cd_SY_init : ByteArray := prog_9_method_1_code
def yy_SY_isThere : MethodName := ⟨"StackedRows$Symbol", "isThere", "()Z"⟩
abbrev cd_SY_isThere : ByteArray := prog_9_method_2_code
def yy_SY_rows : MethodName := ⟨"StackedRows$Symbol", "rows", "()I"⟩
abbrev cd_SY_rows : ByteArray := prog_9_method_3_code
def yy_SY_columns : MethodName := ⟨"StackedRows$Symbol", "columns", "()I"⟩
abbrev cd_SY_columns : ByteArray := prog_9_method_4_code
def yy_SY_leftKind : MethodName := ⟨"StackedRows$Symbol", "leftKind", "(I)I"⟩
abbrev cd_SY_leftKind : ByteArray := prog_9_method_11_code
def yy_SY_rightKind : MethodName := ⟨"StackedRows$Symbol", "rightKind", "(I)I"⟩
abbrev cd_SY_rightKind : ByteArray := prog_9_method_12_code
def yy_SY_indicated : MethodName := ⟨"StackedRows$Symbol", "indicated", "(II)I"⟩
abbrev cd_SY_indicated : ByteArray := prog_9_method_13_code
def yy_SY_has : MethodName := ⟨"StackedRows$Symbol", "has", "(II)Z"⟩
abbrev cd_SY_has : ByteArray := prog_9_method_6_code
def yy_SY_set : MethodName := ⟨"StackedRows$Symbol", "set", "(III)V"⟩
abbrev cd_SY_set : ByteArray := prog_9_method_8_code
def yy_AR_fill : MethodName := ⟨"java/util/Arrays", "fill", "([II)V"⟩
abbrev cd_AR_fill : ByteArray := prog_29_method_103_code
def yy_SY_begin : MethodName := ⟨"StackedRows$Symbol", "begin", "(II)V"⟩
abbrev cd_SY_begin : ByteArray := prog_9_method_5_code
def yy_SY_fill : MethodName := ⟨"StackedRows$Symbol", "fill", "([II)V"⟩
abbrev cd_SY_fill : ByteArray := prog_9_method_9_code
def yy_SR_negative : MethodName := ⟨"StackedRows", "negative", "(I)I"⟩
abbrev cd_SR_negative : ByteArray := prog_1_method_19_code
def yy_SR_checksOf : MethodName := ⟨"StackedRows", "checksOf", "(I)I"⟩
abbrev cd_SR_checksOf : ByteArray := prog_1_method_16_code
def yy_SR_rowsFor : MethodName := ⟨"StackedRows", "rowsFor", "(II)I"⟩
abbrev cd_SR_rowsFor : ByteArray := prog_1_method_14_code
def yy_CK_init : MethodName := ⟨"StackedRows$Checks", "<init>", "()V"⟩
abbrev cd_CK_init : ByteArray := prog_3_method_1_code
def yy_CK_multiplyFactors : MethodName := ⟨"StackedRows$Checks", "multiplyFactors", "(I)V"⟩
abbrev cd_CK_multiplyFactors : ByteArray := prog_3_method_3_code
def yy_CK_divide : MethodName := ⟨"StackedRows$Checks", "divide", "([III)V"⟩
abbrev cd_CK_divide : ByteArray := prog_3_method_4_code
def yy_CK_write : MethodName := ⟨"StackedRows$Checks", "write", "([III)V"⟩
abbrev cd_CK_write : ByteArray := prog_3_method_2_code
def yy_MD_init : MethodName := ⟨"StackedRows$Mender", "<init>", "([I)V"⟩
abbrev cd_MD_init : ByteArray := prog_6_method_1_code
def yy_RD_init : MethodName := ⟨"StackedRows$Reader", "<init>", "([ILStackedRows$Tape;)V"⟩
abbrev cd_RD_init : ByteArray := prog_7_method_1_code
def yy_SV_init : MethodName := ⟨"StackedRows$Solver", "<init>", "([I)V"⟩
abbrev cd_SV_init : ByteArray := prog_8_method_1_code
def yy_SR_init : MethodName := ⟨"StackedRows", "<init>", "()V"⟩
abbrev cd_SR_init : ByteArray := prog_1_method_1_code
def yy_SR_feed : MethodName := ⟨"StackedRows", "feed", "(IIIII)I"⟩
abbrev cd_SR_feed : ByteArray := prog_1_method_2_code
def yy_SR_end : MethodName := ⟨"StackedRows", "end", "(I)V"⟩
abbrev cd_SR_end : ByteArray := prog_1_method_3_code
def yy_SR_byteAt : MethodName := ⟨"StackedRows", "byteAt", "(I)I"⟩
abbrev cd_SR_byteAt : ByteArray := prog_1_method_4_code
def yy_SR_codewords : MethodName := ⟨"StackedRows", "codewords", "()I"⟩
abbrev cd_SR_codewords : ByteArray := prog_1_method_5_code
def yy_SR_codeword : MethodName := ⟨"StackedRows", "codeword", "(I)I"⟩
abbrev cd_SR_codeword : ByteArray := prog_1_method_6_code
def yy_SR_make : MethodName := ⟨"StackedRows", "make", "(II)I"⟩
abbrev cd_SR_make : ByteArray := prog_1_method_7_code
def yy_SR_fillRow : MethodName := ⟨"StackedRows", "fillRow", "(I)V"⟩
abbrev cd_SR_fillRow : ByteArray := prog_1_method_15_code
def yy_SR_blank : MethodName := ⟨"StackedRows", "blank", "(II)V"⟩
abbrev cd_SR_blank : ByteArray := prog_1_method_8_code
def yy_SR_place : MethodName := ⟨"StackedRows", "place", "(II)I"⟩
abbrev cd_SR_place : ByteArray := prog_1_method_9_code
def yy_SR_put : MethodName := ⟨"StackedRows", "put", "(III)V"⟩
abbrev cd_SR_put : ByteArray := prog_1_method_10_code
def yy_SR_solve : MethodName := ⟨"StackedRows", "solve", "()I"⟩
abbrev cd_SR_solve : ByteArray := prog_1_method_11_code
def yy_SR_solved : MethodName := ⟨"StackedRows", "solved", "(I)I"⟩
abbrev cd_SR_solved : ByteArray := prog_1_method_12_code
def yy_SR_count : MethodName := ⟨"StackedRows", "count", "(I)I"⟩
abbrev cd_SR_count : ByteArray := prog_1_method_13_code
def yy_MO_init : MethodName := ⟨"StackedRowsModel", "<init>", "()V"⟩
abbrev cd_MO_init : ByteArray := prog_14_method_1_code
def yy_MO_thrown : MethodName := ⟨"StackedRowsModel", "thrown", "()I"⟩
abbrev cd_MO_thrown : ByteArray := prog_14_method_2_code
def yy_MO_writeAll : MethodName := ⟨"StackedRowsModel", "writeAll", "()V"⟩
abbrev cd_MO_writeAll : ByteArray := prog_14_method_15_code
def yy_MO_codewords : MethodName := ⟨"StackedRowsModel", "codewords", "()I"⟩
abbrev cd_MO_codewords : ByteArray := prog_14_method_16_code
def yy_MO_codeword : MethodName := ⟨"StackedRowsModel", "codeword", "(I)I"⟩
abbrev cd_MO_codeword : ByteArray := prog_14_method_17_code
def yy_MO_feed : MethodName := ⟨"StackedRowsModel", "feed", "(IIIII)I"⟩
abbrev cd_MO_feed : ByteArray := prog_14_method_50_code
def yy_MO_end : MethodName := ⟨"StackedRowsModel", "end", "(I)V"⟩
abbrev cd_MO_end : ByteArray := prog_14_method_51_code
def yy_MO_byteAt : MethodName := ⟨"StackedRowsModel", "byteAt", "(I)I"⟩
abbrev cd_MO_byteAt : ByteArray := prog_14_method_52_code
def yy_MO_solve : MethodName := ⟨"StackedRowsModel", "solve", "()I"⟩
abbrev cd_MO_solve : ByteArray := prog_14_method_48_code
def yy_MO_place : MethodName := ⟨"StackedRowsModel", "place", "(II)I"⟩
abbrev cd_MO_place : ByteArray := prog_14_method_25_code
def yy_MO_put : MethodName := ⟨"StackedRowsModel", "put", "(III)V"⟩
abbrev cd_MO_put : ByteArray := prog_14_method_26_code
def yy_MO_solved : MethodName := ⟨"StackedRowsModel", "solved", "(I)I"⟩
abbrev cd_MO_solved : ByteArray := prog_14_method_49_code
def yy_MO_count : MethodName := ⟨"StackedRowsModel", "count", "(I)I"⟩
abbrev cd_MO_count : ByteArray := prog_14_method_53_code
def yy_MO_make : MethodName := ⟨"StackedRowsModel", "make", "(II)I"⟩
abbrev cd_MO_make : ByteArray := prog_14_method_22_code
def yy_MO_at : MethodName := ⟨"StackedRowsModel", "at", "(II)I"⟩
abbrev cd_MO_at : ByteArray := prog_14_method_19_code
def yy_MO_placeOf : MethodName := ⟨"StackedRowsModel", "placeOf", "(I)I"⟩
abbrev cd_MO_placeOf : ByteArray := prog_14_method_20_code
def yy_MO_indicator : MethodName := ⟨"StackedRowsModel", "indicator", "(IZI)I"⟩
abbrev cd_MO_indicator : ByteArray := prog_14_method_18_code
def yy_MO_makeChecks : MethodName := ⟨"StackedRowsModel", "makeChecks", "(II)V"⟩
abbrev cd_MO_makeChecks : ByteArray := prog_14_method_21_code
def yy_MO_blank : MethodName := ⟨"StackedRowsModel", "blank", "(II)V"⟩
abbrev cd_MO_blank : ByteArray := prog_14_method_23_code
def yy_LW_feed : MethodName := ⟨"StackedRowsLaw", "feed", "(LStackedRows;IIIII[J)I"⟩
abbrev cd_LW_feed : ByteArray := method_3_code
def yy_LW_end : MethodName := ⟨"StackedRowsLaw", "end", "(LStackedRows;I)I"⟩
abbrev cd_LW_end : ByteArray := method_4_code
def yy_LW_byteAt : MethodName := ⟨"StackedRowsLaw", "byteAt", "(LStackedRows;I[J)I"⟩
abbrev cd_LW_byteAt : ByteArray := method_5_code
def yy_LW_codeword : MethodName := ⟨"StackedRowsLaw", "codeword", "(LStackedRows;I[J)I"⟩
abbrev cd_LW_codeword : ByteArray := method_6_code
def yy_LW_make : MethodName := ⟨"StackedRowsLaw", "make", "(LStackedRows;II[J)I"⟩
abbrev cd_LW_make : ByteArray := method_7_code
def yy_LW_blank : MethodName := ⟨"StackedRowsLaw", "blank", "(LStackedRows;II)I"⟩
abbrev cd_LW_blank : ByteArray := method_8_code
def yy_LW_place : MethodName := ⟨"StackedRowsLaw", "place", "(LStackedRows;II[J)I"⟩
abbrev cd_LW_place : ByteArray := method_9_code
def yy_LW_put : MethodName := ⟨"StackedRowsLaw", "put", "(LStackedRows;III)I"⟩
abbrev cd_LW_put : ByteArray := method_10_code
def yy_LW_solve : MethodName := ⟨"StackedRowsLaw", "solve", "(LStackedRows;[J)I"⟩
abbrev cd_LW_solve : ByteArray := method_11_code
def yy_LW_solved : MethodName := ⟨"StackedRowsLaw", "solved", "(LStackedRows;I[J)I"⟩
abbrev cd_LW_solved : ByteArray := method_12_code
def yy_LW_count : MethodName := ⟨"StackedRowsLaw", "count", "(LStackedRows;I[J)I"⟩
abbrev cd_LW_count : ByteArray := method_13_code
def yy_LW_law : MethodName := ⟨"StackedRowsLaw", "law", "([I)Z"⟩
abbrev cd_LW_law : ByteArray := code
abbrev xn_neg : Cond := .methodLinkNest "StackedRows$Checks" 23 yy_SR_negative "StackedRows"
end
section
-- the words that every method leans on: those of the tables that hold at every later state too
def xt_ok (w : Cond) : Bool := (w.onTables && w.keeps) || (match w with | .arrayClass _ => true | _ => false)
def xt_T : List Cond := lw_tbl.filter xt_ok
theorem xt_in {w : Cond} (h : w ∈ lw_tbl) (ho : xt_ok w = true) : w ∈ xt_T := List.mem_filter.mpr ⟨h, ho⟩
theorem xt_good {w : Cond} (h : w ∈ xt_T) : (w.onTables && w.keeps) = true ∨ ∃ ty, w = .arrayClass ty := by
  have h2 := (List.mem_filter.mp h).2
  unfold xt_ok at h2
  rw [Bool.or_eq_true] at h2
  rcases h2 with h2 | h2
  · exact Or.inl h2
  · cases w <;> first | exact Or.inr ⟨_, rfl⟩ | exact absurd h2 (by simp)
theorem xt_all {args : Array Value} {s : State} (h : ∀ w ∈ lw_tbl, w.before args s = true) : ∀ w ∈ xt_T, w.before args s = true := fun w hw => h w (List.mem_filter.mp hw).1
theorem xt_sub {y : MethodName} {b : ByteArray} {n : Nat} {r : Option FieldType} (h : Cond.code y b n r ∈ xt_T) : GoodIn xt_T (.code y b n r :: xt_T) := by
  intro w hw
  rcases List.mem_cons.mp hw with rfl | hw
  · exact ⟨h, xt_good h⟩
  · exact ⟨hw, xt_good hw⟩
theorem xt_V {own C : String} {idx : Nat} {y : MethodName} {b : ByteArray} {n : Nat} {r : Option FieldType} (h1 : Cond.methodLink own idx y ∈ xt_T) (h2 : Cond.instanceMethod y ∈ xt_T) (h3 : Cond.selects C y y ∈ xt_T) (h4 : Cond.initialized C ∈ xt_T) (h5 : Cond.code y b n r ∈ xt_T) : GoodIn xt_T (wsV own idx C y (.code y b n r :: xt_T)) := by
  intro w hw
  unfold wsV at hw
  rcases List.mem_append.mp hw with hw | hw
  · simp only [List.mem_cons, List.not_mem_nil, or_false] at hw
    rcases hw with rfl | rfl | rfl | rfl
    · exact ⟨h1, xt_good h1⟩
    · exact ⟨h2, xt_good h2⟩
    · exact ⟨h3, xt_good h3⟩
    · exact ⟨h4, xt_good h4⟩
  · exact xt_sub h5 w hw
-- the tables' numbers: classes and slots, the classes of int[], long[], boolean[]
abbrev xg_G : Type := va_G × ClassId × ClassId × ClassId
abbrev xg_t (g : xg_G) : List (ClassId × FieldType) := [(g.2.1, .int), (g.2.2.1, .long), (g.2.2.2, .boolean)]
abbrev oc_o (q ci : Nat) (fs : List Value) : Nat × va_E := (q, .inr (ci, fs))
abbrev oc_i (g : xg_G) (q n : Nat) (f : Nat → Int32) : Nat × va_E := (q, .inl (g.2.1, n, .inl f))
abbrev oc_z (g : xg_G) (q n : Nat) (f : Nat → Int32) : Nat × va_E := (q, .inl (g.2.2.2, n, .inl f))
abbrev oc_l (g : xg_G) (q n : Nat) (f : Nat → Int64) : Nat × va_E := (q, .inl (g.2.2.1, n, .inr (.inl f)))
-- what a method's start holds beside its cells: statics that nobody writes, a private link
def xe_E (A : Nat → Prop) (U : State) (H : Heap) : Prop :=
  va_Zq "java/lang/Throwable" "UNASSIGNED_STACK" "[Ljava/lang/StackTraceElement;" A U H ∧ va_Zq "java/lang/Throwable" "SUPPRESSED_SENTINEL" "Ljava/util/List;" A U H ∧ va_Zq "StackedRows$Letters" "CAPITALS" "LStackedRows$Letters;" A U H ∧ va_Nw xn_neg U ∧ va_Nc "java/lang/UnsupportedOperationException" "java/lang/IllegalArgumentException" U
theorem xe_go {A B : Nat → Prop} {s U : State} {H : Heap} {locs : List Loc} (h : xe_E A s s.heap) (hS : va_S A s.heap H locs) (hBA : ∀ q, B q → A q) (hU : U.heap = H) (hW : s.WarmedH U.vm) : xe_E B U U.heap := by
  obtain ⟨h1, h2, h3, h4, h5⟩ := h
  rw [hU]
  exact ⟨((h1.kept hS.2.1).narrow hBA).moved hW.alike, ((h2.kept hS.2.1).narrow hBA).moved hW.alike, ((h3.kept hS.2.1).narrow hBA).moved hW.alike, va_Nw.warmM hW h4, h5.moved hW.alike⟩
theorem xe_call {A : Nat → Prop} {U : State} {g : JFrame} {mk : MethodId} {a : Array Value} (h : xe_E A U U.heap) : xe_E A (U.calling g mk a) (U.calling g mk a).heap := by
  obtain ⟨h1, h2, h3, h4, h5⟩ := h
  exact ⟨h1.moved (u := U) (U := U.calling g mk a) (Vm.Alike.refl U.vm), h2.moved (u := U) (U := U.calling g mk a) (Vm.Alike.refl U.vm), h3.moved (u := U) (U := U.calling g mk a) (Vm.Alike.refl U.vm), va_Nw.same (U := U.calling g mk a) rfl rfl h4, h5.moved (u := U) (U := U.calling g mk a) (Vm.Alike.refl U.vm)⟩
-- contracts of one form
def kc_P (g : xg_G) (av : List Value) (ws : va_W) (sz : Nat) : Array Value → State → Prop := va_Pc av (fun U => U.heap.size = sz ∧ va_P g.1 vwCl ws U.heap ∧ va_K g.1 vwCl (xg_t g) U ∧ va_D (fun _ => True) ws ∧ xe_E (va_A ws sz) U U.heap)
def kc_B (g : xg_G) (A : Nat → Prop) {S : Type} (ws' : S → va_W) : S → State → Prop := fun u t => va_P g.1 vwCl (ws' u) t.heap ∧ va_D A (ws' u)
def kc_I (l : Launch) (y : MethodName) (b : ByteArray) (n : Nat) (rt : FieldType) (rm : Room) (g : xg_G) (av : List Value) (ws : va_W) {S : Type} (post : Int32 → S → Prop) (ws' : S → va_W) : Prop :=
  ∀ sz : Nat, Met l y (.code y b n (some rt) :: xt_T) rm (kc_P g av ws sz) (va_Qi post (kc_B g (va_A ws sz) ws') (va_A ws sz)) rm.cells rm.slots (va_A ws sz)
def kc_V (l : Launch) (y : MethodName) (b : ByteArray) (n : Nat) (rm : Room) (g : xg_G) (av : List Value) (ws : va_W) {S : Type} (post : S → Prop) (ws' : S → va_W) : Prop :=
  ∀ sz : Nat, Met l y (.code y b n none :: xt_T) rm (kc_P g av ws sz) (va_Qv post (kc_B g (va_A ws sz) ws') (va_A ws sz)) rm.cells rm.slots (va_A ws sz)
theorem kc_blind {g : xg_G} {av : List Value} {ws : va_W} {sz : Nat} : FrameBlind (kc_P g av ws sz) := by
  intro a U f mk q
  obtain ⟨q0, q1, qP, qK, qD, qE⟩ := q
  exact ⟨q0, q1, qP, va_K.moved (u := U) (U := U.calling f mk a) (Vm.Alike.refl U.vm) qK, qD, xe_call qE⟩
-- what a body may lean on
abbrev xb_B (g : xg_G) (y : MethodName) (b : ByteArray) (n : Nat) (ret : Option FieldType) (av : List Value) (ws : va_W) (p : Program) (s : State) (m : MethodId) (args : Array Value) (meth : Method) (c : Code) (A : Nat → Prop) (ls : Array Slot) : Prop :=
  p.tables.exec = Jvm.exec ∧ c.code = b ∧ meth.sig.returnType = ret ∧ meth.locks = false ∧ meth.name = y.name ∧ c.maxLocals = n ∧ s.vm.findClass y.cls = some m.cls ∧ (∀ w ∈ xt_T, w.before args s = true) ∧ (∀ q : Nat, s.heap.size ≤ q → A q) ∧ va_K g.1 vwCl (xg_t g) s ∧ va_D A ws ∧ xe_E A s s.heap ∧ lv_has ls n (lv_args 0 av)
theorem xw_mono {p : Program} {l : Launch} {e : Env} {R : Room} {s : State} {m : MethodId} {args : Array Value} {below : List Frame} {meth : Method} {c : Code} {H : Heap} {locs : List Loc} {cells slots : Nat} {Q Q' : State → Prop} {g : JFrame} (hQ : ∀ t, Q' t → Q t) (h : W p l e R s m args below meth c H locs cells slots Q' g) : W p l e R s m args below meth c H locs cells slots Q g := fun T hT X => by
  obtain ⟨t, h1, h2⟩ := h T hT X
  exact ⟨t, h1, hQ t h2⟩
theorem xb_get {l : Launch} {g : xg_G} {y : MethodName} {b : ByteArray} {n : Nat} {ret : Option FieldType} {av : List Value} {ws : va_W} {sz : Nat} {rm : Room} {w0 : Cond} (hal : (lg_sl av).length ≤ n)
    {p : Program} {e : Env} {s : State} {m : MethodId} {args : Array Value} {below : List Frame} {meth : Method} {c : Code} {s₁ : State} (B : BodyLoose p l y (headSpec (w0 :: xt_T) rm) b n ret e s m args below meth c s₁) (hml : c.maxLocals = n) (hv : kc_P g av ws sz args s) :
    ∃ ls : Array Slot, entryFrame m args n = F0 m 0 ls [] ∧ s.heap.size = sz ∧ va_P g.1 vwCl ws s.heap ∧ xb_B g y b n ret av ws p s m args meth c (va_A ws sz) ls := by
  obtain ⟨rfl, hsz, hP, hK, hD0, hE⟩ := hv
  have hts := atoms_spec (ws := w0 :: xt_T) B.pre
  exact ⟨_, lg_entry_eq m av n, hsz, hP, B.exec, B.bytes, B.returns, B.notSynchronized, (name_of_methodNamed B.named B.method).1, hml, findClass_of_methodNamed B.named, fun w h => hts w (List.mem_cons_of_mem _ h), fun q h => Or.inr (by rw [← hsz]; exact h), hK, hD0.self, hE, lv_entry av hal⟩
theorem kc_Iof {l : Launch} {y : MethodName} {b : ByteArray} {n : Nat} {rt : FieldType} {rm : Room} {g : xg_G} {av : List Value} {ws : va_W} {S : Type} {post : Int32 → S → Prop} {ws' : S → va_W} (hy : plainName y.cls = true) (hal : (lg_sl av).length ≤ n)
    (body : ∀ (p : Program) (e : Env) (s : State) (m : MethodId) (args : Array Value) (below : List Frame) (meth : Method) (c : Code) (A : Nat → Prop) (ls : Array Slot) (Q : State → Prop) (H : Heap) (locs : List Loc), (∀ t, MQ below (va_Qi post (kc_B g A ws') A) args s rm.cells rm.slots A t → Q t) → xb_B g y b n (some rt) av ws p s m args meth c A ls → va_P g.1 vwCl ws H → va_S A s.heap H locs → W p l e rm s m args below meth c H locs 0 0 Q (F0 m 0 ls [])) : kc_I l y b n rt rm g av ws post ws' := by
  intro sz
  refine Met.ofW (cc := b) (maxL := n) (ret := some rt) hy rfl ?_
  intro p e s m args below meth c s₁ B hml hv
  obtain ⟨ls, e1, -, hP, hB⟩ := xb_get hal B hml hv
  rw [e1]
  exact body p e s m args below meth c _ ls _ _ _ (fun _ h => h) hB hP va_S.rf
theorem kc_Vof {l : Launch} {y : MethodName} {b : ByteArray} {n : Nat} {rm : Room} {g : xg_G} {av : List Value} {ws : va_W} {S : Type} {post : S → Prop} {ws' : S → va_W} (hy : plainName y.cls = true) (hal : (lg_sl av).length ≤ n)
    (body : ∀ (p : Program) (e : Env) (s : State) (m : MethodId) (args : Array Value) (below : List Frame) (meth : Method) (c : Code) (A : Nat → Prop) (ls : Array Slot) (Q : State → Prop) (H : Heap) (locs : List Loc), (∀ t, MQ below (va_Qv post (kc_B g A ws') A) args s rm.cells rm.slots A t → Q t) → xb_B g y b n none av ws p s m args meth c A ls → va_P g.1 vwCl ws H → va_S A s.heap H locs → W p l e rm s m args below meth c H locs 0 0 Q (F0 m 0 ls [])) : kc_V l y b n rm g av ws post ws' := by
  intro sz
  refine Met.ofW (cc := b) (maxL := n) (ret := none) hy rfl ?_
  intro p e s m args below meth c s₁ B hml hv
  obtain ⟨ls, e1, -, hP, hB⟩ := xb_get hal B hml hv
  rw [e1]
  exact body p e s m args below meth c _ ls _ _ _ (fun _ h => h) hB hP va_S.rf
theorem xs_fm {α β : Type} {is : List α} {f : α → Option β} {l : List β} (h : is.map f = l.map some) : is.filterMap f = l := by
  induction is generalizing l with
  | nil => cases l with
    | nil => rfl
    | cons a t => simp at h
  | cons i t ih =>
    cases l with
    | nil => simp at h
    | cons a u =>
      simp only [List.map_cons, List.cons.injEq] at h
      rw [List.filterMap_cons, h.1]
      simp only [ih h.2]
section XR
variable {p : Program} {l : Launch} {e : Env} {R : Room} {s : State} {m : MethodId} {args : Array Value} {below : List Frame} {meth : Method} {c : Code} {H : Heap} {locs : List Loc} {cells slots : Nat} {Q : State → Prop}
variable {cc : ByteArray} {pc : Nat} {ls : Array Slot} {rest : List Value} {g : xg_G} {A : Nat → Prop} {a : Nat} {ws : va_W} {S : Type} {ws' : S → va_W} {mc ms : Nat}
-- ends
theorem xr_i {post : Int32 → S → Prop} {r : Int32} {rt : FieldType} (hx : p.tables.exec = Jvm.exec) (hb : c.code = cc) (hr : meth.sig.returnType = some rt) (hlocks : meth.locks = false) (hQ : ∀ t, MQ below (va_Qi post (kc_B g A ws') A) args s mc ms A t → Q t) (hP : va_P g.1 vwCl ws H) (hD : va_D A ws) (hS : va_S A s.heap H locs) (u : S) (hp : post r u) (is : List Nat) (hnd : va_nd is = true) (hs : is.map (fun i => ws[i]?) = (ws' u).map some) (hn : narrow rt (.int r) = .int r) (hc : cells ≤ mc) (hm : slots ≤ ms) (hdg : decode cc pc = .ok (.ireturn, 1)) :
    W p l e R s m args below meth c H locs cells slots Q (F0 m pc ls [.int r]) := by
  refine xw_mono hQ ?_
  refine W.widen (k := mc) (n := ms) hc hm ?_
  exact W.zret hx hb hr hn (fun t ht hW => ⟨⟨r, u, rfl, hp, by rw [ht]; exact hP.sub is (xs_fm hs), hD.sub is hnd hs⟩, hS.F ht⟩) hS.2.2 hdg hlocks
theorem xr_v {post : S → Prop} (hx : p.tables.exec = Jvm.exec) (hb : c.code = cc) (hr : meth.sig.returnType = none) (hlocks : meth.locks = false) (hQ : ∀ t, MQ below (va_Qv post (kc_B g A ws') A) args s mc ms A t → Q t) (hP : va_P g.1 vwCl ws H) (hD : va_D A ws) (hS : va_S A s.heap H locs) (u : S) (hp : post u) (is : List Nat) (hnd : va_nd is = true) (hs : is.map (fun i => ws[i]?) = (ws' u).map some) (hc : cells ≤ mc) (hm : slots ≤ ms) (hdg : decode cc pc = .ok (.return_, 1)) :
    W p l e R s m args below meth c H locs cells slots Q (F0 m pc ls []) := by
  refine xw_mono hQ ?_
  refine W.widen (k := mc) (n := ms) hc hm ?_
  exact W.vret hx hb hr (fun t ht hW => ⟨⟨u, rfl, hp, by rw [ht]; exact hP.sub is (xs_fm hs), hD.sub is hnd hs⟩, hS.F ht⟩) hS.2.2 hdg hlocks
-- the value on top by another name
theorem xi_eq {x v : Int32} (h : x = v) (k : W p l e R s m args below meth c H locs cells slots Q (F0 m pc ls (.int v :: rest))) : W p l e R s m args below meth c H locs cells slots Q (F0 m pc ls (.int x :: rest)) := by rw [h]; exact k
-- numbers that are naturals
theorem xi_iadd (hx : p.tables.exec = Jvm.exec) (hb : c.code = cc) {x y : Nat} (hdg : decode cc pc = .ok (.iadd, 1)) (k : W p l e R s m args below meth c H locs cells slots Q (F0 m (pc + 1) ls (.int (nI (x + y)) :: rest))) : W p l e R s m args below meth c H locs cells slots Q (F0 m pc ls (.int (nI y) :: .int (nI x) :: rest)) :=
  lv_iadd hx hb hdg (xi_eq (nI_add x y) k)
theorem xi_isub (hx : p.tables.exec = Jvm.exec) (hb : c.code = cc) {x y : Nat} (h : y ≤ x) (hdg : decode cc pc = .ok (.isub, 1)) (k : W p l e R s m args below meth c H locs cells slots Q (F0 m (pc + 1) ls (.int (nI (x - y)) :: rest))) : W p l e R s m args below meth c H locs cells slots Q (F0 m pc ls (.int (nI y) :: .int (nI x) :: rest)) :=
  lv_isub hx hb hdg (xi_eq (pk_sub h) k)
theorem xi_imul (hx : p.tables.exec = Jvm.exec) (hb : c.code = cc) {x y : Nat} (hdg : decode cc pc = .ok (.imul, 1)) (k : W p l e R s m args below meth c H locs cells slots Q (F0 m (pc + 1) ls (.int (nI (x * y)) :: rest))) : W p l e R s m args below meth c H locs cells slots Q (F0 m pc ls (.int (nI y) :: .int (nI x) :: rest)) :=
  lv_imul hx hb hdg (xi_eq (pk_mul x y) k)
theorem xi_idiv (hx : p.tables.exec = Jvm.exec) (hb : c.code = cc) {x y : Nat} (h : x < 2 ^ 31) (h0 : 0 < y) (hy : y < 2 ^ 31) (hdg : decode cc pc = .ok (.idiv, 1)) (k : W p l e R s m args below meth c H locs cells slots Q (F0 m (pc + 1) ls (.int (nI (x / y)) :: rest))) : W p l e R s m args below meth c H locs cells slots Q (F0 m pc ls (.int (nI y) :: .int (nI x) :: rest)) :=
  lv_idiv hx hb hdg (nI_ne0 h0 hy) (xi_eq (pk_div h h0 hy) k)
theorem xi_irem (hx : p.tables.exec = Jvm.exec) (hb : c.code = cc) {x y : Nat} (h : x < 2 ^ 31) (h0 : 0 < y) (hy : y < 2 ^ 31) (hdg : decode cc pc = .ok (.irem, 1)) (k : W p l e R s m args below meth c H locs cells slots Q (F0 m (pc + 1) ls (.int (nI (x % y)) :: rest))) : W p l e R s m args below meth c H locs cells slots Q (F0 m pc ls (.int (nI y) :: .int (nI x) :: rest)) :=
  lv_irem hx hb hdg (nI_ne0 h0 hy) (xi_eq (pk_rem h h0 hy) k)
theorem xi_remR (hx : p.tables.exec = Jvm.exec) (hb : c.code = cc) {x y : Int32} (h0 : ¬ y = 0) (hdg : decode cc pc = .ok (.irem, 1)) (k : ∀ z : Int32, W p l e R s m args below meth c H locs cells slots Q (F0 m (pc + 1) ls (.int z :: rest))) : W p l e R s m args below meth c H locs cells slots Q (F0 m pc ls (.int y :: .int x :: rest)) :=
  lv_irem hx hb hdg h0 (k _)
theorem xi_inc (x : Nat) : nI x + Int32.ofInt 1 = nI (x + 1) := nI_1 x
theorem xi_dec {x : Nat} (h : 0 < x) : nI x + Int32.ofInt (-1) = nI (x - 1) := sb_m1 h
-- branches on naturals
theorem xb_lt (hx : p.tables.exec = Jvm.exec) (hb : c.code = cc) {x y : Nat} (hx1 : x < 2 ^ 31) (hy1 : y < 2 ^ 31) {off : Int} {tgt : Nat} (hdg : decode cc pc = .ok (.if_icmp .lt off, 3)) (ht : (pc : Int) + off = (tgt : Int)) (kt : x < y → W p l e R s m args below meth c H locs cells slots Q (F0 m tgt ls rest)) (kf : y ≤ x → W p l e R s m args below meth c H locs cells slots Q (F0 m (pc + 3) ls rest)) : W p l e R s m args below meth c H locs cells slots Q (F0 m pc ls (.int (nI y) :: .int (nI x) :: rest)) :=
  lv_icmp_lt hx hb hdg ht (fun h => kt ((nI_ltI hx1 hy1).mp h)) (fun h => kf (Nat.not_lt.mp (fun h2 => h ((nI_ltI hx1 hy1).mpr h2))))
theorem xb_ge (hx : p.tables.exec = Jvm.exec) (hb : c.code = cc) {x y : Nat} (hx1 : x < 2 ^ 31) (hy1 : y < 2 ^ 31) {off : Int} {tgt : Nat} (hdg : decode cc pc = .ok (.if_icmp .ge off, 3)) (ht : (pc : Int) + off = (tgt : Int)) (kt : y ≤ x → W p l e R s m args below meth c H locs cells slots Q (F0 m tgt ls rest)) (kf : x < y → W p l e R s m args below meth c H locs cells slots Q (F0 m (pc + 3) ls rest)) : W p l e R s m args below meth c H locs cells slots Q (F0 m pc ls (.int (nI y) :: .int (nI x) :: rest)) :=
  lv_icmp_ge hx hb hdg ht (fun h => kt ((nI_leI hy1 hx1).mp h)) (fun h => kf (Nat.not_le.mp (fun h2 => h ((nI_leI hy1 hx1).mpr h2))))
theorem xb_gt (hx : p.tables.exec = Jvm.exec) (hb : c.code = cc) {x y : Nat} (hx1 : x < 2 ^ 31) (hy1 : y < 2 ^ 31) {off : Int} {tgt : Nat} (hdg : decode cc pc = .ok (.if_icmp .gt off, 3)) (ht : (pc : Int) + off = (tgt : Int)) (kt : y < x → W p l e R s m args below meth c H locs cells slots Q (F0 m tgt ls rest)) (kf : x ≤ y → W p l e R s m args below meth c H locs cells slots Q (F0 m (pc + 3) ls rest)) : W p l e R s m args below meth c H locs cells slots Q (F0 m pc ls (.int (nI y) :: .int (nI x) :: rest)) :=
  lv_icmp_gt hx hb hdg ht (fun h => kt ((nI_ltI hy1 hx1).mp h)) (fun h => kf (Nat.not_lt.mp (fun h2 => h ((nI_ltI hy1 hx1).mpr h2))))
theorem xb_le (hx : p.tables.exec = Jvm.exec) (hb : c.code = cc) {x y : Nat} (hx1 : x < 2 ^ 31) (hy1 : y < 2 ^ 31) {off : Int} {tgt : Nat} (hdg : decode cc pc = .ok (.if_icmp .le off, 3)) (ht : (pc : Int) + off = (tgt : Int)) (kt : x ≤ y → W p l e R s m args below meth c H locs cells slots Q (F0 m tgt ls rest)) (kf : y < x → W p l e R s m args below meth c H locs cells slots Q (F0 m (pc + 3) ls rest)) : W p l e R s m args below meth c H locs cells slots Q (F0 m pc ls (.int (nI y) :: .int (nI x) :: rest)) :=
  lv_icmp_le hx hb hdg ht (fun h => kt ((nI_leI hx1 hy1).mp h)) (fun h => kf (Nat.not_le.mp (fun h2 => h ((nI_leI hx1 hy1).mpr h2))))
theorem xb_eq (hx : p.tables.exec = Jvm.exec) (hb : c.code = cc) {x y : Nat} (hx1 : x < 2 ^ 31) (hy1 : y < 2 ^ 31) {off : Int} {tgt : Nat} (hdg : decode cc pc = .ok (.if_icmp .eq off, 3)) (ht : (pc : Int) + off = (tgt : Int)) (kt : x = y → W p l e R s m args below meth c H locs cells slots Q (F0 m tgt ls rest)) (kf : x ≠ y → W p l e R s m args below meth c H locs cells slots Q (F0 m (pc + 3) ls rest)) : W p l e R s m args below meth c H locs cells slots Q (F0 m pc ls (.int (nI y) :: .int (nI x) :: rest)) :=
  lv_icmp_eq hx hb hdg ht (fun h => kt ((nI_eq hx1 hy1).mp h)) (fun h => kf (fun h2 => h ((nI_eq hx1 hy1).mpr h2)))
theorem xb_ne (hx : p.tables.exec = Jvm.exec) (hb : c.code = cc) {x y : Nat} (hx1 : x < 2 ^ 31) (hy1 : y < 2 ^ 31) {off : Int} {tgt : Nat} (hdg : decode cc pc = .ok (.if_icmp .ne off, 3)) (ht : (pc : Int) + off = (tgt : Int)) (kt : x ≠ y → W p l e R s m args below meth c H locs cells slots Q (F0 m tgt ls rest)) (kf : x = y → W p l e R s m args below meth c H locs cells slots Q (F0 m (pc + 3) ls rest)) : W p l e R s m args below meth c H locs cells slots Q (F0 m pc ls (.int (nI y) :: .int (nI x) :: rest)) :=
  lv_icmp_ne hx hb hdg ht (fun h => kt (fun h2 => h (by rw [h2]))) (fun h => kf ((nI_eq hx1 hy1).mp h))
-- a branch against 0, of a natural
theorem xb_zle (hx : p.tables.exec = Jvm.exec) (hb : c.code = cc) {x : Nat} (hx1 : x < 2 ^ 31) {off : Int} {tgt : Nat} (hdg : decode cc pc = .ok (.ifCond .le off, 3)) (ht : (pc : Int) + off = (tgt : Int)) (kt : x = 0 → W p l e R s m args below meth c H locs cells slots Q (F0 m tgt ls rest)) (kf : 0 < x → W p l e R s m args below meth c H locs cells slots Q (F0 m (pc + 3) ls rest)) : W p l e R s m args below meth c H locs cells slots Q (F0 m pc ls (.int (nI x) :: rest)) := by
  rcases Nat.eq_zero_or_pos x with h | h
  · subst h
    exact lv_if_le hx hb hdg ht (fun _ => kt rfl) (fun h => absurd (by rw [nI_0]; exact Int32.le_refl 0) h)
  · exact lv_if_le hx hb hdg ht (fun h2 => absurd h2 (nI_nle h hx1)) (fun _ => kf h)
theorem xb_zge (hx : p.tables.exec = Jvm.exec) (hb : c.code = cc) {x : Nat} (hx1 : x < 2 ^ 31) {off : Int} {tgt : Nat} (hdg : decode cc pc = .ok (.ifCond .ge off, 3)) (ht : (pc : Int) + off = (tgt : Int)) (kt : W p l e R s m args below meth c H locs cells slots Q (F0 m tgt ls rest)) : W p l e R s m args below meth c H locs cells slots Q (F0 m pc ls (.int (nI x) :: rest)) :=
  lv_if_ge hx hb hdg ht (fun _ => kt) (fun h => absurd (nI_pos' hx1) h)
theorem xb_zlt (hx : p.tables.exec = Jvm.exec) (hb : c.code = cc) {x : Nat} (hx1 : x < 2 ^ 31) {off : Int} {tgt : Nat} (hdg : decode cc pc = .ok (.ifCond .lt off, 3)) (ht : (pc : Int) + off = (tgt : Int)) (kf : W p l e R s m args below meth c H locs cells slots Q (F0 m (pc + 3) ls rest)) : W p l e R s m args below meth c H locs cells slots Q (F0 m pc ls (.int (nI x) :: rest)) :=
  lv_if_lt hx hb hdg ht (fun h => absurd h (nI_pos hx1)) (fun _ => kf)
theorem xb_zne (hx : p.tables.exec = Jvm.exec) (hb : c.code = cc) {x : Nat} (hx1 : x < 2 ^ 31) {off : Int} {tgt : Nat} (hdg : decode cc pc = .ok (.ifCond .ne off, 3)) (ht : (pc : Int) + off = (tgt : Int)) (kt : 0 < x → W p l e R s m args below meth c H locs cells slots Q (F0 m tgt ls rest)) (kf : x = 0 → W p l e R s m args below meth c H locs cells slots Q (F0 m (pc + 3) ls rest)) : W p l e R s m args below meth c H locs cells slots Q (F0 m pc ls (.int (nI x) :: rest)) := by
  rcases Nat.eq_zero_or_pos x with h | h
  · subst h
    exact lv_if_ne hx hb hdg ht (fun h => absurd nI_0 h) (fun _ => kf rfl)
  · exact lv_if_ne hx hb hdg ht (fun _ => kt h) (fun h2 => absurd h2 (nI_ne0 h hx1))
theorem xb_zeq (hx : p.tables.exec = Jvm.exec) (hb : c.code = cc) {x : Nat} (hx1 : x < 2 ^ 31) {off : Int} {tgt : Nat} (hdg : decode cc pc = .ok (.ifCond .eq off, 3)) (ht : (pc : Int) + off = (tgt : Int)) (kt : x = 0 → W p l e R s m args below meth c H locs cells slots Q (F0 m tgt ls rest)) (kf : 0 < x → W p l e R s m args below meth c H locs cells slots Q (F0 m (pc + 3) ls rest)) : W p l e R s m args below meth c H locs cells slots Q (F0 m pc ls (.int (nI x) :: rest)) := by
  rcases Nat.eq_zero_or_pos x with h | h
  · subst h
    exact lv_if_eq hx hb hdg ht (fun _ => kt rfl) (fun h => absurd nI_0 h)
  · exact lv_if_eq hx hb hdg ht (fun h2 => absurd h2 (nI_ne0 h hx1)) (fun _ => kf h)
theorem xb_zgt (hx : p.tables.exec = Jvm.exec) (hb : c.code = cc) {x : Nat} (hx1 : x < 2 ^ 31) {off : Int} {tgt : Nat} (hdg : decode cc pc = .ok (.ifCond .gt off, 3)) (ht : (pc : Int) + off = (tgt : Int)) (kt : 0 < x → W p l e R s m args below meth c H locs cells slots Q (F0 m tgt ls rest)) (kf : x = 0 → W p l e R s m args below meth c H locs cells slots Q (F0 m (pc + 3) ls rest)) : W p l e R s m args below meth c H locs cells slots Q (F0 m pc ls (.int (nI x) :: rest)) := by
  rcases Nat.eq_zero_or_pos x with h | h
  · subst h
    exact lv_if_gt hx hb hdg ht (fun h => absurd h (by rw [nI_0]; decide)) (fun _ => kf rfl)
  · exact lv_if_gt hx hb hdg ht (fun _ => kt h) (fun h2 => absurd (Int32.not_le.mp (nI_nle h hx1)) h2)
-- branches of any int against a natural, or against 0: said of the integers
theorem xb_rlt (hx : p.tables.exec = Jvm.exec) (hb : c.code = cc) {x : Int32} {k : Nat} (hk : k < 2 ^ 31) {off : Int} {tgt : Nat} (hdg : decode cc pc = .ok (.if_icmp .lt off, 3)) (ht : (pc : Int) + off = (tgt : Int)) (kt : x.toInt < (k : Int) → W p l e R s m args below meth c H locs cells slots Q (F0 m tgt ls rest)) (kf : (k : Int) ≤ x.toInt → W p l e R s m args below meth c H locs cells slots Q (F0 m (pc + 3) ls rest)) : W p l e R s m args below meth c H locs cells slots Q (F0 m pc ls (.int (nI k) :: .int x :: rest)) :=
  lv_icmp_lt hx hb hdg ht (fun h => kt (by rw [← nI_toInt hk]; exact Int32.lt_iff_toInt_lt.mp h)) (fun h => kf (by rw [← nI_toInt hk]; exact Int32.le_iff_toInt_le.mp (Int32.not_lt.mp h)))
theorem xb_rle (hx : p.tables.exec = Jvm.exec) (hb : c.code = cc) {x : Int32} {k : Nat} (hk : k < 2 ^ 31) {off : Int} {tgt : Nat} (hdg : decode cc pc = .ok (.if_icmp .le off, 3)) (ht : (pc : Int) + off = (tgt : Int)) (kt : x.toInt ≤ (k : Int) → W p l e R s m args below meth c H locs cells slots Q (F0 m tgt ls rest)) (kf : (k : Int) < x.toInt → W p l e R s m args below meth c H locs cells slots Q (F0 m (pc + 3) ls rest)) : W p l e R s m args below meth c H locs cells slots Q (F0 m pc ls (.int (nI k) :: .int x :: rest)) :=
  lv_icmp_le hx hb hdg ht (fun h => kt (by rw [← nI_toInt hk]; exact Int32.le_iff_toInt_le.mp h)) (fun h => kf (by rw [← nI_toInt hk]; exact Int32.lt_iff_toInt_lt.mp (Int32.not_le.mp h)))
theorem xb_rgt (hx : p.tables.exec = Jvm.exec) (hb : c.code = cc) {x : Int32} {k : Nat} (hk : k < 2 ^ 31) {off : Int} {tgt : Nat} (hdg : decode cc pc = .ok (.if_icmp .gt off, 3)) (ht : (pc : Int) + off = (tgt : Int)) (kt : (k : Int) < x.toInt → W p l e R s m args below meth c H locs cells slots Q (F0 m tgt ls rest)) (kf : x.toInt ≤ (k : Int) → W p l e R s m args below meth c H locs cells slots Q (F0 m (pc + 3) ls rest)) : W p l e R s m args below meth c H locs cells slots Q (F0 m pc ls (.int (nI k) :: .int x :: rest)) :=
  lv_icmp_gt hx hb hdg ht (fun h => kt (by rw [← nI_toInt hk]; exact Int32.lt_iff_toInt_lt.mp h)) (fun h => kf (by rw [← nI_toInt hk]; exact Int32.le_iff_toInt_le.mp (Int32.not_lt.mp h)))
theorem xb_rge (hx : p.tables.exec = Jvm.exec) (hb : c.code = cc) {x : Int32} {k : Nat} (hk : k < 2 ^ 31) {off : Int} {tgt : Nat} (hdg : decode cc pc = .ok (.if_icmp .ge off, 3)) (ht : (pc : Int) + off = (tgt : Int)) (kt : (k : Int) ≤ x.toInt → W p l e R s m args below meth c H locs cells slots Q (F0 m tgt ls rest)) (kf : x.toInt < (k : Int) → W p l e R s m args below meth c H locs cells slots Q (F0 m (pc + 3) ls rest)) : W p l e R s m args below meth c H locs cells slots Q (F0 m pc ls (.int (nI k) :: .int x :: rest)) :=
  lv_icmp_ge hx hb hdg ht (fun h => kt (by rw [← nI_toInt hk]; exact Int32.le_iff_toInt_le.mp h)) (fun h => kf (by rw [← nI_toInt hk]; exact Int32.lt_iff_toInt_lt.mp (Int32.not_le.mp h)))
theorem xb_r0lt (hx : p.tables.exec = Jvm.exec) (hb : c.code = cc) {x : Int32} {off : Int} {tgt : Nat} (hdg : decode cc pc = .ok (.ifCond .lt off, 3)) (ht : (pc : Int) + off = (tgt : Int)) (kt : x.toInt < 0 → W p l e R s m args below meth c H locs cells slots Q (F0 m tgt ls rest)) (kf : 0 ≤ x.toInt → W p l e R s m args below meth c H locs cells slots Q (F0 m (pc + 3) ls rest)) : W p l e R s m args below meth c H locs cells slots Q (F0 m pc ls (.int x :: rest)) :=
  lv_if_lt hx hb hdg ht (fun h => kt (Int32.lt_iff_toInt_lt.mp h)) (fun h => kf (Int32.le_iff_toInt_le.mp (Int32.not_lt.mp h)))
theorem xb_r0ge (hx : p.tables.exec = Jvm.exec) (hb : c.code = cc) {x : Int32} {off : Int} {tgt : Nat} (hdg : decode cc pc = .ok (.ifCond .ge off, 3)) (ht : (pc : Int) + off = (tgt : Int)) (kt : 0 ≤ x.toInt → W p l e R s m args below meth c H locs cells slots Q (F0 m tgt ls rest)) (kf : x.toInt < 0 → W p l e R s m args below meth c H locs cells slots Q (F0 m (pc + 3) ls rest)) : W p l e R s m args below meth c H locs cells slots Q (F0 m pc ls (.int x :: rest)) :=
  lv_if_ge hx hb hdg ht (fun h => kt (Int32.le_iff_toInt_le.mp h)) (fun h => kf (Int32.lt_iff_toInt_lt.mp (Int32.not_le.mp h)))
-- arrays, by a natural index
theorem xa_ld (hx : p.tables.exec = Jvm.exec) (hb : c.code = cc) (hK : va_K g.1 vwCl (xg_t g) s) (hP : va_P g.1 vwCl ws H) (q0 : Nat) {n : Nat} {f : Nat → Int32} (ha : ws[q0]? = some (oc_i g a n f)) {j : Nat} (hj : j < n) (hn : n < 2 ^ 31) (hdg : decode cc pc = .ok (.iaload, 1)) (kk : W p l e R s m args below meth c H locs cells slots Q (F0 m (pc + 1) ls (.int (f j) :: rest))) : W p l e R s m args below meth c H locs cells slots Q (F0 m pc ls (.int (nI j) :: .ref a :: rest)) :=
  va_iald hx hb hK hP q0 0 ha rfl (vp_in_nI hj hn) hdg (by rw [nI_clamp (Nat.lt_trans hj hn)]; exact kk)
theorem xa_st (hx : p.tables.exec = Jvm.exec) (hb : c.code = cc) (hK : va_K g.1 vwCl (xg_t g) s) (hP : va_P g.1 vwCl ws H) (hD : va_D A ws) (hS : va_S A s.heap H locs) (q0 : Nat) {n : Nat} {f : Nat → Int32} (ha : ws[q0]? = some (oc_i g a n f)) {j : Nat} {x : Int32} (hj : j < n) (hn : n < 2 ^ 31) (hdg : decode cc pc = .ok (.iastore, 1)) (kk : ∀ (f1 : Nat → Int32) (H1 : Heap) (locs1 : List Loc), va_P g.1 vwCl (ws.set q0 (oc_i g a n f1)) H1 → va_D A (ws.set q0 (oc_i g a n f1)) → va_S A s.heap H1 locs1 → W p l e R s m args below meth c H1 locs1 cells slots Q (F0 m (pc + 1) ls rest)) : W p l e R s m args below meth c H locs cells slots Q (F0 m pc ls (.int x :: .int (nI j) :: .ref a :: rest)) :=
  va_iast hx hb hK hP hD hS q0 0 ha rfl (vp_in_nI hj hn) hdg (fun H1 locs1 h1 h2 h3 => kk _ H1 locs1 h1 h2 h3)
theorem xa_stL (hx : p.tables.exec = Jvm.exec) (hb : c.code = cc) (hK : va_K g.1 vwCl (xg_t g) s) (hP : va_P g.1 vwCl ws H) (hD : va_D A ws) (hS : va_S A s.heap H locs) (q0 : Nat) {n : Nat} {f : Nat → Int64} (ha : ws[q0]? = some (oc_l g a n f)) {j : Nat} {x : Int64} (hj : j < n) (hn : n < 2 ^ 31) (hdg : decode cc pc = .ok (.lastore, 1)) (kk : ∀ (f1 : Nat → Int64) (H1 : Heap) (locs1 : List Loc), f1 j = x → va_P g.1 vwCl (ws.set q0 (oc_l g a n f1)) H1 → va_D A (ws.set q0 (oc_l g a n f1)) → va_S A s.heap H1 locs1 → W p l e R s m args below meth c H1 locs1 cells slots Q (F0 m (pc + 1) ls rest)) : W p l e R s m args below meth c H locs cells slots Q (F0 m pc ls (.long x :: .int (nI j) :: .ref a :: rest)) :=
  va_last hx hb hK hP hD hS q0 1 ha rfl (vp_in_nI hj hn) hdg (fun H1 locs1 h1 h2 h3 => kk _ H1 locs1 (by rw [nI_clamp (Nat.lt_trans hj hn)]; simp [vp_updL]) h1 h2 h3)
theorem xa_ldL (hx : p.tables.exec = Jvm.exec) (hb : c.code = cc) (hK : va_K g.1 vwCl (xg_t g) s) (hP : va_P g.1 vwCl ws H) (q0 : Nat) {n : Nat} {f : Nat → Int64} (ha : ws[q0]? = some (oc_l g a n f)) {j : Nat} (hj : j < n) (hn : n < 2 ^ 31) (hdg : decode cc pc = .ok (.laload, 1)) (kk : W p l e R s m args below meth c H locs cells slots Q (F0 m (pc + 1) ls (.long (f j) :: rest))) : W p l e R s m args below meth c H locs cells slots Q (F0 m pc ls (.int (nI j) :: .ref a :: rest)) :=
  va_lald hx hb hK hP q0 1 ha rfl (vp_in_nI hj hn) hdg (by rw [nI_clamp (Nat.lt_trans hj hn)]; exact kk)
theorem xa_len (hx : p.tables.exec = Jvm.exec) (hb : c.code = cc) (hK : va_K g.1 vwCl (xg_t g) s) (hP : va_P g.1 vwCl ws H) (q0 : Nat) {n : Nat} {f : Nat → Int32} (ha : ws[q0]? = some (oc_i g a n f)) (hdg : decode cc pc = .ok (.arraylength, 1)) (kk : W p l e R s m args below meth c H locs cells slots Q (F0 m (pc + 1) ls (.int (nI n) :: rest))) : W p l e R s m args below meth c H locs cells slots Q (F0 m pc ls (.ref a :: rest)) :=
  va_alen hx hb hK hP q0 0 ha rfl rfl hdg kk
theorem xa_cls {cA : ClassId} {t0 : Nat} {ty : FieldType} {cB : ClassId} {tys : List (ClassId × FieldType)} (hK : va_K g.1 vwCl (tys ++ [(cA, ty)]) s) (hlen : tys.length = t0) (h1 : ∀ C, ty ≠ .object C) (h : va_RA s cB ty) : cA = cB := by
  have h2 := (hK.2 t0 (cA, ty) (by rw [← hlen]; simp)).2
  cases ty <;> first | exact Option.some.inj (h2.symm.trans h) | exact absurd rfl (h1 _)
theorem xa_newI (hx : p.tables.exec = Jvm.exec) (hb : c.code = cc) (harr : (Cond.arrayClass .int).before args s = true) (hK : va_K g.1 vwCl (xg_t g) s) (hP : va_P g.1 vwCl ws H) (hD : va_D A ws) (hS : va_S A s.heap H locs) (hA : ∀ q, s.heap.size ≤ q → A q) {n k1 k2 : Nat} (hn : n < 2 ^ 27) (hk1 : cells + 1 = k1) (hk2 : slots + n = k2) (hcells : k1 ≤ R.cells) (hslots : k2 ≤ R.slots) (hdg : decode cc pc = .ok (.newarray .int, 2))
    (kk : ∀ (q : Nat) (H1 : Heap), va_P g.1 vwCl (ws ++ [oc_i g q n (fun _ => 0)]) H1 → va_D A (ws ++ [oc_i g q n (fun _ => 0)]) → va_S A s.heap H1 locs → W p l e R s m args below meth c H1 locs k1 k2 Q (F0 m (pc + 2) ls (.ref q :: rest))) : W p l e R s m args below meth c H locs cells slots Q (F0 m pc ls (.int (nI n) :: rest)) := by
  subst hk1; subst hk2
  refine va_newa hx hb (atype := .int) harr (ty := .int) rfl hK hP hD hS hA (N' := n) (a0 := (n, .inl (fun _ => 0))) (fun cA => by rw [vp_cell_i]; rfl) (nI_pos (by omega)) (nI_clamp (by omega)) (by show n * 4 ≤ _; omega) hcells hslots hdg (fun q cA H1 hK1 h1 h2 h3 => ?_)
  have hc : cA = g.2.1 := xa_cls (tys := xg_t g) hK1 rfl (fun _ h => by cases h) (hK.2 0 _ rfl).2
  subst hc
  exact kk q H1 h1 h2 h3
theorem xa_newL (hx : p.tables.exec = Jvm.exec) (hb : c.code = cc) (harr : (Cond.arrayClass .long).before args s = true) (hK : va_K g.1 vwCl (xg_t g) s) (hP : va_P g.1 vwCl ws H) (hD : va_D A ws) (hS : va_S A s.heap H locs) (hA : ∀ q, s.heap.size ≤ q → A q) {n k1 k2 : Nat} (hn : n < 2 ^ 26) (hk1 : cells + 1 = k1) (hk2 : slots + n = k2) (hcells : k1 ≤ R.cells) (hslots : k2 ≤ R.slots) (hdg : decode cc pc = .ok (.newarray .long, 2))
    (kk : ∀ (q : Nat) (H1 : Heap), va_P g.1 vwCl (ws ++ [oc_l g q n (fun _ => 0)]) H1 → va_D A (ws ++ [oc_l g q n (fun _ => 0)]) → va_S A s.heap H1 locs → W p l e R s m args below meth c H1 locs k1 k2 Q (F0 m (pc + 2) ls (.ref q :: rest))) : W p l e R s m args below meth c H locs cells slots Q (F0 m pc ls (.int (nI n) :: rest)) := by
  subst hk1; subst hk2
  refine va_newa hx hb (atype := .long) harr (ty := .long) rfl hK hP hD hS hA (N' := n) (a0 := (n, .inr (.inl (fun _ => 0)))) (fun cA => by rw [vp_cell_l]; rfl) (nI_pos (by omega)) (nI_clamp (by omega)) (by show n * 8 ≤ _; omega) hcells hslots hdg (fun q cA H1 hK1 h1 h2 h3 => ?_)
  have hc : cA = g.2.2.1 := xa_cls (tys := xg_t g) hK1 rfl (fun _ h => by cases h) (hK.2 1 _ rfl).2
  subst hc
  exact kk q H1 h1 h2 h3
theorem xa_newZ (hx : p.tables.exec = Jvm.exec) (hb : c.code = cc) (harr : (Cond.arrayClass .boolean).before args s = true) (hK : va_K g.1 vwCl (xg_t g) s) (hP : va_P g.1 vwCl ws H) (hD : va_D A ws) (hS : va_S A s.heap H locs) (hA : ∀ q, s.heap.size ≤ q → A q) {n k1 k2 : Nat} (hn : n < 2 ^ 29) (hk1 : cells + 1 = k1) (hk2 : slots + n = k2) (hcells : k1 ≤ R.cells) (hslots : k2 ≤ R.slots) (hdg : decode cc pc = .ok (.newarray .boolean, 2))
    (kk : ∀ (q : Nat) (H1 : Heap), va_P g.1 vwCl (ws ++ [oc_z g q n (fun _ => 0)]) H1 → va_D A (ws ++ [oc_z g q n (fun _ => 0)]) → va_S A s.heap H1 locs → W p l e R s m args below meth c H1 locs k1 k2 Q (F0 m (pc + 2) ls (.ref q :: rest))) : W p l e R s m args below meth c H locs cells slots Q (F0 m pc ls (.int (nI n) :: rest)) := by
  subst hk1; subst hk2
  refine va_newa hx hb (atype := .boolean) harr (ty := .boolean) rfl hK hP hD hS hA (N' := n) (a0 := (n, .inl (fun _ => 0))) (fun cA => by rw [vp_cell_i]; rfl) (nI_pos (by omega)) (nI_clamp (by omega)) (by show n * 1 ≤ _; omega) hcells hslots hdg (fun q cA H1 hK1 h1 h2 h3 => ?_)
  have hc : cA = g.2.2.2 := xa_cls (tys := xg_t g) hK1 rfl (fun _ h => by cases h) (hK.2 2 _ rfl).2
  subst hc
  exact kk q H1 h1 h2 h3
-- forgetting cells of the world
theorem xw_sub {wr : va_W} {g0 : JFrame} (hP : va_P g.1 vwCl ws H) (hD : va_D A ws) (is : List Nat) (hnd : va_nd is = true) (hs : is.map (fun i => ws[i]?) = wr.map some) (kk : va_P g.1 vwCl wr H → va_D A wr → W p l e R s m args below meth c H locs cells slots Q g0) : W p l e R s m args below meth c H locs cells slots Q g0 :=
  kk (hP.sub is (xs_fm hs)) (hD.sub is hnd hs)
end XR
-- calls
section XC
variable {p : Program} {l : Launch} {e : Env} {R : Room} {s : State} {m : MethodId} {args : Array Value} {below : List Frame} {meth : Method} {c : Code} {H : Heap} {locs : List Loc} {cells slots : Nat} {Q : State → Prop}
variable {cc : ByteArray} {pc nL : Nat} {ls : Array Slot} {rest st0 : List Value} {g : xg_G} {A : Nat → Prop} {a : Nat} {ws wc wr : va_W} {S : Type} {ws' : S → va_W} {y : MethodName} {b : ByteArray} {n idx : Nat} {rt : FieldType} {rm : Room} {own C : String} {As : List Value} {k1 k2 : Nat}
theorem xc_pre (hE : xe_E A s s.heap) (hK : va_K g.1 vwCl (xg_t g) s) (hP : va_P g.1 vwCl ws H) (hD : va_D A ws) (hS : va_S A s.heap H locs) (hA : ∀ q, s.heap.size ≤ q → A q) {av : List Value} (isC : List Nat) (hC : isC.map (fun i => ws[i]?) = wc.map some) (hn : va_nd isC = true) : PreS s H (kc_P g av wc H.size) av :=
  ⟨kc_blind, fun U hU hW => ⟨rfl, by rw [hU], by rw [hU]; exact hP.sub isC (xs_fm hC), va_K.moved hW.alike hK, (hD.sub isC hn hC).weaken (fun _ _ _ _ => trivial), xe_go hE hS (va_free hD hS hA isC hC) hU hW⟩⟩
theorem xc_preV (hE : xe_E A s s.heap) (hK : va_K g.1 vwCl (xg_t g) s) (hP : va_P g.1 vwCl ws H) (hD : va_D A ws) (hS : va_S A s.heap H locs) (hA : ∀ q, s.heap.size ≤ q → A q) (isC : List Nat) (hC : isC.map (fun i => ws[i]?) = wc.map some) (hn : va_nd isC = true) (q0 : Nat) {ci : Nat} {fs : List Value} {q : vw_C} (hc : vwCl[ci]? = some q) (he : ws[q0]? = some (oc_o a ci fs)) (hq : q.1 = C) : PreV s H C a (kc_P g (.ref a :: As) wc H.size) As := by
  subst hq
  exact ⟨kc_blind, va_recv hK hP hc he, (xc_pre hE hK hP hD hS hA isC hC hn).2⟩
theorem xc_iG {post : Int32 → S → Prop} {av : Array Value} (hr : va_Run p l e R s m args below meth c H locs cells slots rm.cells rm.slots (F0 m pc ls st0) rest (va_Qi post (kc_B g (va_A wc H.size) ws') (va_A wc H.size) av) (va_A wc H.size)) (hP : va_P g.1 vwCl ws H) (hD : va_D A ws) (hS : va_S A s.heap H locs) (hA : ∀ q, s.heap.size ≤ q → A q) (isC isR : List Nat) (hC : isC.map (fun i => ws[i]?) = wc.map some) (hR : isR.map (fun i => ws[i]?) = wr.map some) (hn : va_nd isR = true) (hdis : ∀ i ∈ isR, i ∉ isC) (hk1 : cells + rm.cells = k1) (hk2 : slots + rm.slots = k2)
    (kk : ∀ (r : Int32) (u : S) (H1 : Heap) (locs1 : List Loc), post r u → va_P g.1 vwCl (wr ++ ws' u) H1 → va_D A (wr ++ ws' u) → va_S A s.heap H1 locs1 → W p l e R s m args below meth c H1 locs1 k1 k2 Q (F0 m (pc + 3) ls (.int r :: rest))) : W p l e R s m args below meth c H locs cells slots Q (F0 m pc ls st0) := by
  subst hk1; subst hk2
  have hF := va_free (wc := wc) hD hS hA isC hC
  refine va_calli hr hS (fun q _ h => hF q h) hF (fun r u t H1 locs1 ht hvm hp hB hz hk hS1 => ?_)
  obtain ⟨hP1, hD1⟩ := hB
  rw [ht] at hP1
  obtain ⟨hP2, hD2⟩ := va_join (wr := wr) (w1 := ws' u) hP hD isC isR hC hR hn hdis hk hF hP1 hD1
  exact kk r u H1 locs1 hp hP2 hD2 hS1
theorem xc_vG {post : S → Prop} {av : Array Value} (hr : va_Run p l e R s m args below meth c H locs cells slots rm.cells rm.slots (F0 m pc ls st0) rest (va_Qv post (kc_B g (va_A wc H.size) ws') (va_A wc H.size) av) (va_A wc H.size)) (hP : va_P g.1 vwCl ws H) (hD : va_D A ws) (hS : va_S A s.heap H locs) (hA : ∀ q, s.heap.size ≤ q → A q) (isC isR : List Nat) (hC : isC.map (fun i => ws[i]?) = wc.map some) (hR : isR.map (fun i => ws[i]?) = wr.map some) (hn : va_nd isR = true) (hdis : ∀ i ∈ isR, i ∉ isC) (hk1 : cells + rm.cells = k1) (hk2 : slots + rm.slots = k2)
    (kk : ∀ (u : S) (H1 : Heap) (locs1 : List Loc), post u → va_P g.1 vwCl (wr ++ ws' u) H1 → va_D A (wr ++ ws' u) → va_S A s.heap H1 locs1 → W p l e R s m args below meth c H1 locs1 k1 k2 Q (F0 m (pc + 3) ls rest)) : W p l e R s m args below meth c H locs cells slots Q (F0 m pc ls st0) := by
  subst hk1; subst hk2
  have hF := va_free (wc := wc) hD hS hA isC hC
  refine va_callv hr hS (fun q _ h => hF q h) hF (fun u t H1 locs1 ht hvm hp hB hz hk hS1 => ?_)
  obtain ⟨hP1, hD1⟩ := hB
  rw [ht] at hP1
  obtain ⟨hP2, hD2⟩ := va_join (wr := wr) (w1 := ws' u) hP hD isC isR hC hR hn hdis hk hF hP1 hD1
  exact kk u H1 locs1 hp hP2 hD2 hS1
-- what a site gives: the fixed things of the walk, and its room
abbrev xf_F (g : xg_G) (p : Program) (m : MethodId) (c : Code) (cc : ByteArray) (nL : Nat) (s : State) (args : Array Value) (own : String) (A : Nat → Prop) : Prop := CallFix p m c cc nL s args xt_T own ∧ xe_E A s s.heap ∧ va_K g.1 vwCl (xg_t g) s ∧ (∀ q, s.heap.size ≤ q → A q)
abbrev xf_R (R : Room) (rm : Room) (n cells slots k1 k2 : Nat) : Prop := (rm.frames + 1 ≤ R.frames ∧ 8 + (n + 11) + rm.locals ≤ R.locals) ∧ cells + rm.cells = k1 ∧ slots + rm.slots = k2 ∧ k1 ≤ R.cells ∧ k2 ≤ R.slots
abbrev xf_P (ws wc wr : va_W) (isC isR : List Nat) : Prop := isC.map (fun i => ws[i]?) = wc.map some ∧ isR.map (fun i => ws[i]?) = wr.map some ∧ va_nd isC = true ∧ va_nd isR = true ∧ ∀ i ∈ isR, i ∉ isC
theorem xc_Vi {post : Int32 → S → Prop} (F : xf_F g p m c cc nL s args own A) (hP : va_P g.1 vwCl ws H) (hD : va_D A ws) (hS : va_S A s.heap H locs) (hM : kc_I l y b n rt rm g (.ref a :: As) wc post ws') (hT : GoodIn xt_T (wsV own idx C y (.code y b n (some rt) :: xt_T))) {k : Nat} (hd : y.cls = C ∧ y.cls ≠ "java/lang/invoke/MethodHandle" ∧ y.cls ≠ "java/lang/invoke/VarHandle" ∧ (parseMethodDescriptor y.desc).map (fun d => d.parameters.length) = some k) (q0 : Nat) {ci : Nat} {fs : List Value} {q : vw_C} (hc : vwCl[ci]? = some q) (he : ws[q0]? = some (oc_o a ci fs)) (hq : q.1 = C) (isC isR : List Nat) (hpl : xf_P ws wc wr isC isR) (hrm : xf_R R rm n cells slots k1 k2) (hlen : As.length = k) (hsz : ls.size = nL) (hst : st0 = As.reverse ++ .ref a :: rest) (hW : (rest.map fun v => v.category).sum ≤ 8) (hdg : decode cc pc = .ok (.invokevirtual idx, 3))
    (kk : ∀ (r : Int32) (u : S) (H1 : Heap) (locs1 : List Loc), post r u → va_P g.1 vwCl (wr ++ ws' u) H1 → va_D A (wr ++ ws' u) → va_S A s.heap H1 locs1 → W p l e R s m args below meth c H1 locs1 k1 k2 Q (F0 m (pc + 3) ls (.int r :: rest))) : W p l e R s m args below meth c H locs cells slots Q (F0 m pc ls st0) := by
  obtain ⟨Fx, hE, hK, hA⟩ := F
  obtain ⟨hC, hR, hnC, hnR, hdis⟩ := hpl
  obtain ⟨hrm, h1, h2, h3, h4⟩ := hrm
  exact xc_iG (va_runV (As := As) (rest := rest) (b := a) (C := C) Fx (hM H.size) (cwV k Fx.2.2.2.2 hT rfl rfl rfl hd hrm) (xc_preV hE hK hP hD hS hA isC hC hnC q0 hc he hq) rfl hlen hsz hst (lv_room hW) hdg ⟨by rw [h1]; exact h3, by rw [h2]; exact h4⟩) hP hD hS hA isC isR hC hR hnR hdis h1 h2 kk
theorem xc_Vv {post : S → Prop} (F : xf_F g p m c cc nL s args own A) (hP : va_P g.1 vwCl ws H) (hD : va_D A ws) (hS : va_S A s.heap H locs) (hM : kc_V l y b n rm g (.ref a :: As) wc post ws') (hT : GoodIn xt_T (wsV own idx C y (.code y b n none :: xt_T))) {k : Nat} (hd : y.cls = C ∧ y.cls ≠ "java/lang/invoke/MethodHandle" ∧ y.cls ≠ "java/lang/invoke/VarHandle" ∧ (parseMethodDescriptor y.desc).map (fun d => d.parameters.length) = some k) (q0 : Nat) {ci : Nat} {fs : List Value} {q : vw_C} (hc : vwCl[ci]? = some q) (he : ws[q0]? = some (oc_o a ci fs)) (hq : q.1 = C) (isC isR : List Nat) (hpl : xf_P ws wc wr isC isR) (hrm : xf_R R rm n cells slots k1 k2) (hlen : As.length = k) (hsz : ls.size = nL) (hst : st0 = As.reverse ++ .ref a :: rest) (hW : (rest.map fun v => v.category).sum ≤ 8) (hdg : decode cc pc = .ok (.invokevirtual idx, 3))
    (kk : ∀ (u : S) (H1 : Heap) (locs1 : List Loc), post u → va_P g.1 vwCl (wr ++ ws' u) H1 → va_D A (wr ++ ws' u) → va_S A s.heap H1 locs1 → W p l e R s m args below meth c H1 locs1 k1 k2 Q (F0 m (pc + 3) ls rest)) : W p l e R s m args below meth c H locs cells slots Q (F0 m pc ls st0) := by
  obtain ⟨Fx, hE, hK, hA⟩ := F
  obtain ⟨hC, hR, hnC, hnR, hdis⟩ := hpl
  obtain ⟨hrm, h1, h2, h3, h4⟩ := hrm
  exact xc_vG (va_runV (As := As) (rest := rest) (b := a) (C := C) Fx (hM H.size) (cwV k Fx.2.2.2.2 hT rfl rfl rfl hd hrm) (xc_preV hE hK hP hD hS hA isC hC hnC q0 hc he hq) rfl hlen hsz hst (lv_room hW) hdg ⟨by rw [h1]; exact h3, by rw [h2]; exact h4⟩) hP hD hS hA isC isR hC hR hnR hdis h1 h2 kk
theorem xc_Iv {post : S → Prop} (F : xf_F g p m c cc nL s args own A) (hP : va_P g.1 vwCl ws H) (hD : va_D A ws) (hS : va_S A s.heap H locs) (hM : kc_V l y b n rm g (.ref a :: As) wc post ws') (hcode : Cond.code y b n none ∈ xt_T) (hini : Cond.initialized y.cls ∈ xt_T) (hlk : Cond.methodLink own idx y ∈ xt_T) (hin : Cond.instanceMethod y ∈ xt_T) (hy1 : y.name = "<init>") {k : Nat} (hd : y.cls ≠ "java/lang/invoke/MethodHandle" ∧ y.cls ≠ "java/lang/invoke/VarHandle" ∧ (parseMethodDescriptor y.desc).map (fun d => d.parameters.length) = some k) (isC isR : List Nat) (hpl : xf_P ws wc wr isC isR) (hrm : xf_R R rm n cells slots k1 k2) (hlen : As.length = k) (hsz : ls.size = nL) (hst : st0 = As.reverse ++ .ref a :: rest) (hW : (rest.map fun v => v.category).sum ≤ 8) (hdg : decode cc pc = .ok (.invokespecial idx, 3))
    (kk : ∀ (u : S) (H1 : Heap) (locs1 : List Loc), post u → va_P g.1 vwCl (wr ++ ws' u) H1 → va_D A (wr ++ ws' u) → va_S A s.heap H1 locs1 → W p l e R s m args below meth c H1 locs1 k1 k2 Q (F0 m (pc + 3) ls rest)) : W p l e R s m args below meth c H locs cells slots Q (F0 m pc ls st0) := by
  obtain ⟨Fx, hE, hK, hA⟩ := F
  obtain ⟨hC, hR, hnC, hnR, hdis⟩ := hpl
  obtain ⟨hrm, h1, h2, h3, h4⟩ := hrm
  have hts := Fx.2.2.2.2
  exact xc_vG (va_runI (As := As) (rest := rest) (b := a) Fx (hM H.size) (cwI k hts (xt_sub hcode) rfl rfl rfl (hts _ hini) (hts _ hlk) (hts _ hin) hy1 hd hrm) (xc_pre hE hK hP hD hS hA isC hC hnC) rfl hlen hsz hst (lv_room hW) hdg ⟨by rw [h1]; exact h3, by rw [h2]; exact h4⟩) hP hD hS hA isC isR hC hR hnR hdis h1 h2 kk
theorem xc_Si {post : Int32 → S → Prop} (F : xf_F g p m c cc nL s args own A) (hP : va_P g.1 vwCl ws H) (hD : va_D A ws) (hS : va_S A s.heap H locs) (hM : kc_I l y b n rt rm g As wc post ws') (hcode : Cond.code y b n (some rt) ∈ xt_T) (hini : Cond.initialized y.cls ∈ xt_T) (hlk : Cond.methodLink own idx y ∈ xt_T) (hst9 : Cond.static y ∈ xt_T) {k : Nat} (hd : y.cls ≠ "java/lang/invoke/MethodHandle" ∧ y.cls ≠ "java/lang/invoke/VarHandle" ∧ (parseMethodDescriptor y.desc).map (fun d => d.parameters.length) = some k) (isC isR : List Nat) (hpl : xf_P ws wc wr isC isR) (hrm : xf_R R rm n cells slots k1 k2) (hlen : As.length = k) (hsz : ls.size = nL) (hst : st0 = As.reverse ++ rest) (hW : (rest.map fun v => v.category).sum ≤ 8) (hdg : decode cc pc = .ok (.invokestatic idx, 3))
    (kk : ∀ (r : Int32) (u : S) (H1 : Heap) (locs1 : List Loc), post r u → va_P g.1 vwCl (wr ++ ws' u) H1 → va_D A (wr ++ ws' u) → va_S A s.heap H1 locs1 → W p l e R s m args below meth c H1 locs1 k1 k2 Q (F0 m (pc + 3) ls (.int r :: rest))) : W p l e R s m args below meth c H locs cells slots Q (F0 m pc ls st0) := by
  obtain ⟨Fx, hE, hK, hA⟩ := F
  obtain ⟨hC, hR, hnC, hnR, hdis⟩ := hpl
  obtain ⟨hrm, h1, h2, h3, h4⟩ := hrm
  have hts := Fx.2.2.2.2
  exact xc_iG (va_runS (As := As) (rest := rest) Fx (hM H.size) ⟨callB_of k hts (xt_sub hcode) rfl rfl rfl (hts _ hini) (hts _ hlk) hd hrm, hts _ hst9⟩ (xc_pre hE hK hP hD hS hA isC hC hnC) rfl hlen hsz hst (lv_room hW) hdg ⟨by rw [h1]; exact h3, by rw [h2]; exact h4⟩) hP hD hS hA isC isR hC hR hnR hdis h1 h2 kk
theorem xc_Sv {post : S → Prop} (F : xf_F g p m c cc nL s args own A) (hP : va_P g.1 vwCl ws H) (hD : va_D A ws) (hS : va_S A s.heap H locs) (hM : kc_V l y b n rm g As wc post ws') (hcode : Cond.code y b n none ∈ xt_T) (hini : Cond.initialized y.cls ∈ xt_T) (hlk : Cond.methodLink own idx y ∈ xt_T) (hst9 : Cond.static y ∈ xt_T) {k : Nat} (hd : y.cls ≠ "java/lang/invoke/MethodHandle" ∧ y.cls ≠ "java/lang/invoke/VarHandle" ∧ (parseMethodDescriptor y.desc).map (fun d => d.parameters.length) = some k) (isC isR : List Nat) (hpl : xf_P ws wc wr isC isR) (hrm : xf_R R rm n cells slots k1 k2) (hlen : As.length = k) (hsz : ls.size = nL) (hst : st0 = As.reverse ++ rest) (hW : (rest.map fun v => v.category).sum ≤ 8) (hdg : decode cc pc = .ok (.invokestatic idx, 3))
    (kk : ∀ (u : S) (H1 : Heap) (locs1 : List Loc), post u → va_P g.1 vwCl (wr ++ ws' u) H1 → va_D A (wr ++ ws' u) → va_S A s.heap H1 locs1 → W p l e R s m args below meth c H1 locs1 k1 k2 Q (F0 m (pc + 3) ls rest)) : W p l e R s m args below meth c H locs cells slots Q (F0 m pc ls st0) := by
  obtain ⟨Fx, hE, hK, hA⟩ := F
  obtain ⟨hC, hR, hnC, hnR, hdis⟩ := hpl
  obtain ⟨hrm, h1, h2, h3, h4⟩ := hrm
  have hts := Fx.2.2.2.2
  exact xc_vG (va_runS (As := As) (rest := rest) Fx (hM H.size) ⟨callB_of k hts (xt_sub hcode) rfl rfl rfl (hts _ hini) (hts _ hlk) hd hrm, hts _ hst9⟩ (xc_pre hE hK hP hD hS hA isC hC hnC) rfl hlen hsz hst (lv_room hW) hdg ⟨by rw [h1]; exact h3, by rw [h2]; exact h4⟩) hP hD hS hA isC isR hC hR hnR hdis h1 h2 kk
theorem xc_SNi {post : Int32 → S → Prop} {host : String} (F : xf_F g p m c cc nL s args own A) (hP : va_P g.1 vwCl ws H) (hD : va_D A ws) (hS : va_S A s.heap H locs) (hM : kc_I l y b n rt rm g As wc post ws') (hcode : Cond.code y b n (some rt) ∈ xt_T) (hini : Cond.initialized y.cls ∈ xt_T) (hlk : va_Nw (.methodLinkNest own idx y host) s) (hst9 : Cond.static y ∈ xt_T) {k : Nat} (hd : y.cls ≠ "java/lang/invoke/MethodHandle" ∧ y.cls ≠ "java/lang/invoke/VarHandle" ∧ (parseMethodDescriptor y.desc).map (fun d => d.parameters.length) = some k) (isC isR : List Nat) (hpl : xf_P ws wc wr isC isR) (hrm : xf_R R rm n cells slots k1 k2) (hlen : As.length = k) (hsz : ls.size = nL) (hst : st0 = As.reverse ++ rest) (hW : (rest.map fun v => v.category).sum ≤ 8) (hdg : decode cc pc = .ok (.invokestatic idx, 3))
    (kk : ∀ (r : Int32) (u : S) (H1 : Heap) (locs1 : List Loc), post r u → va_P g.1 vwCl (wr ++ ws' u) H1 → va_D A (wr ++ ws' u) → va_S A s.heap H1 locs1 → W p l e R s m args below meth c H1 locs1 k1 k2 Q (F0 m (pc + 3) ls (.int r :: rest))) : W p l e R s m args below meth c H locs cells slots Q (F0 m pc ls st0) := by
  obtain ⟨Fx, hE, hK, hA⟩ := F
  obtain ⟨hC, hR, hnC, hnR, hdis⟩ := hpl
  obtain ⟨hrm, h1, h2, h3, h4⟩ := hrm
  have hts := Fx.2.2.2.2
  exact xc_iG (va_runSN (As := As) (rest := rest) Fx (hM H.size) ⟨va_cnB k hts (xt_sub hcode) rfl rfl rfl hlk (hts _ hini) hd hrm, hts _ hst9, trivial⟩ (xc_pre hE hK hP hD hS hA isC hC hnC) rfl hlen hsz hst (lv_room hW) hdg ⟨by rw [h1]; exact h3, by rw [h2]; exact h4⟩) hP hD hS hA isC isR hC hR hnR hdis h1 h2 kk
end XC
end
section
-- how a method ends by a throw
def xt_E (A : Nat → Prop) (X : String) (st : State) (o : Outcome) (t : State) (mc ms : Nat) : Prop := ∃ (x : Addr) (ce : Cell) (L : List Loc), o = .threw x ∧ t.heap[x]? = some ce ∧ ce.vm = .none ∧ st.vm.findClass X = some ce.cls ∧ st.vm.assignable ce.cls ce.cls = true ∧ st.WarmedH t.vm ∧ st.sameButNew ({ t with vm := st.vm } : State) L mc ms ∧ ∀ q ∈ L, A q.base
def xt_Q (below : List Frame) (A : Nat → Prop) (X : String) (s : State) (mc ms : Nat) : State → Prop := fun t => ∃ o, t.status = .running ∧ Ended t below o ∧ xt_E A X s o t mc ms
def kc_T (l : Launch) (y : MethodName) (b : ByteArray) (n : Nat) (ret : Option FieldType) (rm : Room) (g : xg_G) (av : List Value) (ws : va_W) (X : String) : Prop :=
  ∀ sz : Nat, MetFree l y (headSpec (.code y b n ret :: xt_T) rm) (kc_P g av ws sz) (fun _ _ _ _ _ => True) (fun _ st o t => xt_E (va_A ws sz) X st o t rm.cells rm.slots)
theorem xt_kept {A : Nat → Prop} {st t : State} {L : List Loc} {mc ms : Nat} (h : st.sameButNew ({ t with vm := st.vm } : State) L mc ms) (hL : ∀ q ∈ L, A q.base) : va_F A st t := by
  obtain ⟨-, h2, -, -, -, h6⟩ := h
  refine ⟨h2, fun q hq hA => ?_⟩
  obtain ⟨c', e1, e2, e3, e4⟩ := h6 q _ (Array.getElem?_eq_getElem hq)
  have e5 : c'.slots = (st.heap[q]).slots := by
    refine Array.ext e3 (fun i h1 h3 => ?_)
    have h9 := e4 i (fun hm => hA (hL _ hm))
    rw [Array.getElem?_eq_getElem h1, Array.getElem?_eq_getElem h3] at h9
    exact Option.some.inj h9
  have e6 : c' = st.heap[q] := by rw [e2, e5]
  have e7 : t.heap[q]? = some c' := e1
  rw [e7, e6, Array.getElem?_eq_getElem hq]
theorem xt_plain {g : xg_G} {ws : va_W} {s : State} (hP : va_P g.1 vwCl ws s.heap) : ∀ (q : Nat) (cell : Cell), va_A ws s.heap.size q → s.heap[q]? = some cell → cell.vm.isStatics = false := by
  intro q cell hA hc
  rcases hA with ⟨k, en, hk⟩ | hA
  · have h := hP k (q, en) hk
    cases en with
    | inl a =>
      have h1 : s.heap[q]? = some (vp_cell a.1 a.2) := h
      rw [h1] at hc
      cases hc
      obtain ⟨c, n, f | f | f | f | f⟩ := a <;> rfl
    | inr o =>
      obtain ⟨r, -, ce, h1, -, h3, -⟩ := h
      have h4 : s.heap[q]? = some ce := h1
      rw [h4] at hc
      cases hc
      rw [h3]
      rfl
  · have := (Array.getElem?_eq_some_iff.mp hc).1
    omega
theorem kc_Tof {l : Launch} {y : MethodName} {b : ByteArray} {n : Nat} {ret : Option FieldType} {rm : Room} {g : xg_G} {av : List Value} {ws : va_W} {X : String} (hy : plainName y.cls = true) (hal : (lg_sl av).length ≤ n)
    (body : ∀ (p : Program) (e : Env) (s : State) (m : MethodId) (args : Array Value) (below : List Frame) (meth : Method) (c : Code) (A : Nat → Prop) (ls : Array Slot) (Q : State → Prop) (H : Heap) (locs : List Loc), (∀ t, xt_Q below A X s rm.cells rm.slots t → Q t) → xb_B g y b n ret av ws p s m args meth c A ls → va_P g.1 vwCl ws H → va_S A s.heap H locs → ((∀ (q : Nat) (cell : Cell), A q → s.heap[q]? = some cell → cell.vm.isStatics = false) ∧ c.exceptionTable.isEmpty = true) → W p l e rm s m args below meth c H locs 0 0 Q (F0 m 0 ls [])) : kc_T l y b n ret rm g av ws X := by
  intro sz
  refine MetFree.of_bodyS (code := b) (maxLocals := n) (ret := ret) hy ?_ ?_
  · intro args s m h hn
    obtain ⟨meth, c, h1, h2, h3, h4, h5, h6, -, -⟩ := Cond.code_spec hn (atoms_spec (ws := .code y b n ret :: xt_T) h _ List.mem_cons_self)
    exact ⟨meth, c, h1, h2, h3, h4, h5, h6⟩
  · intro p e s m args below meth c s₁ B hml hv _
    have hh0 : s₁.heap = s.heap := by rw [B.state]; rfl
    have hex := B.noHandlers (atoms_spec (ws := .code y b n ret :: xt_T) B.pre _ List.mem_cons_self)
    obtain ⟨ls, e1, hsz, hP, hB⟩ := xb_get hal B hml hv
    rw [e1]
    obtain ⟨t, a1, o, b1, b2, b3⟩ := body p e s m args below meth c _ ls (xt_Q below (va_A ws sz) X s rm.cells rm.slots) _ _ (fun _ h => h) hB hP va_S.rf ⟨by rw [← hsz]; exact xt_plain hP, hex⟩ s₁ hh0 (Stand.of_body B)
    exact ⟨t, o, a1, b1, b2, b3⟩
theorem xt_isRef {C n d : String} {A : Nat → Prop} {s : State} {args : Array Value} (h : va_Zq C n d A s s.heap) : (Cond.isRef (.static C n d)).before args s = true := by
  have key : ∀ v : Value, va_Z C n d v A s s.heap → (Term.static C n d).eval args s none [] s = some v := by
    intro v hv
    obtain ⟨cf, kf, fi, f, a, cell, h1, h2, h3, h4, h5, h6, h7, -⟩ := hv
    simp [Term.eval, State.fieldNamed?, h1, h2, h4, h5, h6, h7]
  rcases h with h | ⟨t, h⟩
  · simp [Cond.before, Cond.holds, Cond.value, key _ h]
  · simp [Cond.before, Cond.holds, Cond.value, key _ h]
abbrev xt_r1 : Cond := .isRef (.static "java/lang/Throwable" "UNASSIGNED_STACK" "[Ljava/lang/StackTraceElement;")
abbrev xt_r2 : Cond := .isRef (.static "java/lang/Throwable" "SUPPRESSED_SENTINEL" "Ljava/util/List;")
section XT
variable {p : Program} {l : Launch} {e : Env} {R : Room} {s : State} {m : MethodId} {args : Array Value} {below : List Frame} {meth : Method} {c : Code} {H : Heap} {locs : List Loc} {cells slots : Nat} {Q : State → Prop}
variable {cc : ByteArray} {pc nL : Nat} {ls : Array Slot} {rest : List Value} {g : xg_G} {A : Nat → Prop} {mc ms : Nat}
/-- new X; dup; X(); athrow: out of the method -/
theorem xt_throw {own cls : String} {names : List String} {i1 ic : Nat} (hat : ∀ a ∈ Bundle.ownAtoms0 own ic cls names, a ∈ xt_T ∨ a = xt_r1 ∨ a = xt_r2) (hfit : Bundle.fit cls = true) (hnames : ∀ n ∈ names, Bundle.fit n = true) (hcl : Cond.classLink own i1 cls ∈ xt_T) (hins : Cond.instantiable cls 6 ∈ xt_T) (hini : Cond.initialized cls ∈ xt_T)
    (htr : l.stackTraces = false) (hx : p.tables.exec = Jvm.exec) (hb : c.code = cc) (hlk : meth.locks = false) (hts : ∀ w ∈ xt_T, w.before args s = true) (hown : s.vm.findClass own = some m.cls) (hE : xe_E A s s.heap) (hst : (∀ (q : Nat) (cell : Cell), A q → s.heap[q]? = some cell → cell.vm.isStatics = false) ∧ c.exceptionTable.isEmpty = true) (hS : va_S A s.heap H locs) (hml : c.maxLocals = nL) (hsz : ls.size = nL) (hQ : ∀ t, xt_Q below A cls s mc ms t → Q t)
    (d1 : decode cc pc = .ok (.new i1, 3)) (d2 : decode cc (pc + 3) = .ok (.dup, 1)) (d3 : decode cc (pc + 4) = .ok (.invokespecial ic, 3)) (d4 : decode cc (pc + 7) = .ok (.athrow, 1)) (hc1 : cells + 1 ≤ R.cells) (hc2 : slots + 6 ≤ R.slots) (hmc : cells + 1 ≤ mc) (hms : slots + 6 ≤ ms) (hR1 : names.length + 3 < R.frames) (hR2 : 1 + (13 * (names.length + 1) + 41) ≤ R.locals) :
    W p l e R s m args below meth c H locs cells slots Q (F0 m pc ls []) := by
  refine W.newc hx hb hown (hts _ hcl) (hts _ hins) (hts _ hini) rfl d1 hc1 hc2 (fun cC kC h1 h2 h3 h4 => ?_)
  refine W.eq (g2 := F0 m (pc + 3) ls [.ref H.size]) rfl ?_
  refine lv_dup hx hb d2 rfl ?_
  refine W.widen (k := mc) (n := ms) hmc hms ?_
  intro T hT X
  have htr' : e.platform.stackTraces = false := by
    have h9 : e.platform.stackTraces = l.stackTraces := by rw [X.admits.platform]
    rw [h9]; exact htr
  have hatoms : ∀ a ∈ Bundle.ownAtoms0 own ic cls names, a.before args s = true := by
    intro a ha
    rcases hat a ha with h | h | h
    · exact hts a h
    · rw [h]; exact xt_isRef hE.1
    · rw [h]; exact xt_isRef hE.2.1
  have hout : ∀ x ∈ c.exceptionTable.toList, covers x (pc + 4 + 3) = false := by
    have h9 : c.exceptionTable = #[] := by simpa using hst.2
    rw [h9]; intro x hx9; cases hx9
  obtain ⟨U, hst1, hrun, hend, hW, hsame, ce, hce, hOC⟩ := X.ctorThrow0 hx htr' hown hfit hnames hatoms (fun x hx9 cell hc9 => hst.1 _ _ (hS.2.2 x hx9) hc9) h1 h2 (a := H.size) (by rw [hT]; simp) hS.1 (g := F0 m (pc + 4) ls [.ref H.size, .ref H.size]) (rest := []) rfl (hsz.trans hml.symm) rfl rfl rfl (by rw [hb]; exact d3) (by rw [hb]; exact d4) hout hR1 (by show 2 * 0 + 1 + _ ≤ _; omega) hlk
  exact ⟨U, hst1, hQ U ⟨_, hrun, hend, H.size, ce, locs, rfl, hce, hOC.vm, hOC.cls, hOC.self, hW, hsame, hS.2.2⟩⟩
end XT
-- the search through a table of handlers, its classes resolved now or before
theorem xt_row {Q : Handler → Pre} {E : CtlPost} {e : Env} {d : Bool} {acts : List Action} {S : State} {f : JFrame} {a : Addr} {z : ExceptionTableEntry} {t : List ExceptionTableEntry} {cT : ClassId} {cell : Cell} (hz : covers z f.pc = true) (h0 : z.catchType ≠ 0) (hl : S.vm.ClassLinks e.platform f.method.cls z.catchType cT) (hcell : S.heap[a]? = some cell) (hobj : ∀ k, cell.vm ≠ .statics k) (hk : ∃ k, S.vm.classes[cell.cls]? = some k) (hc : ∃ k, S.vm.classes[cT]? = some k) :
    wp (findHandler.go f a (z :: t)) Q E e d acts S ↔ (if S.vm.assignable cell.cls cT = true then Q (.found z.handlerPc) d acts (S.setVm (S.vm.noted f.method.cls z.catchType (.cls cT))) else wp (findHandler.go f a t) Q E e d acts (S.setVm (S.vm.noted f.method.cls z.catchType (.cls cT)))) := by
  simp only [covers] at hz
  obtain ⟨ha, ht⟩ := (resolveClass_links e.toSetting hl).op (op := VmOp.resolveClass f.method.cls z.catchType) rfl
  have hal : S.vm.Alike (S.vm.noted f.method.cls z.catchType (.cls cT)) := (Vm.Alike.refl S.vm).noted _ _ _
  obtain ⟨k1, hk1⟩ := hk
  obtain ⟨k2, hk2⟩ := hc
  obtain ⟨k3, hk3, -⟩ := hal.2.2 _ _ hk1
  obtain ⟨k4, hk4, -⟩ := hal.2.2 _ _ hk2
  cases hfit : S.vm.assignable cell.cls cT with
  | true =>
    have hfit' : (S.vm.noted f.method.cls z.catchType (.cls cT)).assignable cell.cls cT = true := by rw [hal.assignable]; exact hfit
    simp [findHandler.go, hz, h0, ha, ht, hcell, hobj, hk3, hk4, hfit', VmOp.dirties, VmOp.acts]
  | false =>
    have hfit' : (S.vm.noted f.method.cls z.catchType (.cls cT)).assignable cell.cls cT = false := by rw [hal.assignable]; exact hfit
    simp [findHandler.go, hz, h0, ha, ht, hcell, hobj, hk3, hk4, hfit', VmOp.dirties, VmOp.acts]
def xt_pass (pl : Platform) (s : State) (d : ClassId) (pc : Nat) (cl : ClassId) (z : ExceptionTableEntry) : Prop := covers z pc = true ∧ z.catchType ≠ 0 ∧ ∃ cT, s.vm.ClassLinks pl d z.catchType cT ∧ s.vm.assignable cl cT = false
theorem xt_find {e : Env} {s : State} {f : JFrame} {a : Addr} {cell : Cell} (hobj : ∀ k, cell.vm ≠ .statics k) (hk0 : ∃ k, s.vm.classes[cell.cls]? = some k) {z : ExceptionTableEntry} {rest : List ExceptionTableEntry} (hz : covers z f.pc = true) (h0 : z.catchType ≠ 0) {cT : ClassId} (hl : s.vm.ClassLinks e.platform f.method.cls z.catchType cT) (hfit : s.vm.assignable cell.cls cT = true) :
    ∀ (pre : List ExceptionTableEntry) (S : State), s.WarmedH S.vm → S.heap[a]? = some cell → (∀ y ∈ pre, xt_pass e.platform s f.method.cls f.pc cell.cls y) →
      ∃ vm', s.WarmedH vm' ∧ ∀ (Q : Handler → Pre) (E : CtlPost) (d : Bool) (acts : List Action), wp (findHandler.go f a (pre ++ z :: rest)) Q E e d acts S ↔ Q (.found z.handlerPc) d acts (S.setVm vm') := by
  have note : ∀ {y : ExceptionTableEntry} {cY : ClassId} {S : State}, s.WarmedH S.vm → s.vm.ClassLinks e.platform f.method.cls y.catchType cY → s.WarmedH (S.vm.noted f.method.cls y.catchType (.cls cY)) ∧ (∃ k, S.vm.classes[cell.cls]? = some k) ∧ ∃ k, S.vm.classes[cY]? = some k := by
    intro y cY S hW hly
    obtain ⟨dk, _, _, kt, hd, _, _, _, _, hkt, _, hopen⟩ := hly.here
    obtain ⟨kt', hkt', -⟩ := hW.alike.2.2 _ _ hkt
    obtain ⟨k0, hk0⟩ := hk0
    obtain ⟨k0', hk0', -⟩ := hW.alike.2.2 _ _ hk0
    exact ⟨hW.noted hd hopen (State.rightAt_cls hly), ⟨k0', hk0'⟩, ⟨kt', hkt'⟩⟩
  intro pre
  induction pre with
  | nil =>
    intro S hW hcell _
    obtain ⟨n1, n2, n3⟩ := note hW hl
    refine ⟨_, n1, fun Q E d acts => ?_⟩
    rw [List.nil_append, xt_row hz h0 (hW.classLinks hl) hcell hobj n2 n3, if_pos (by rw [hW.alike.assignable]; exact hfit)]
  | cons y ys ih =>
    intro S hW hcell hpass
    obtain ⟨q1, q2, cY, q3, q4⟩ := hpass y List.mem_cons_self
    obtain ⟨n1, n2, n3⟩ := note hW q3
    obtain ⟨vm', hW', hq⟩ := ih (S.setVm (S.vm.noted f.method.cls y.catchType (.cls cY))) n1 hcell (fun w hw => hpass w (List.mem_cons_of_mem _ hw))
    refine ⟨vm', hW', fun Q E d acts => ?_⟩
    rw [List.cons_append, xt_row q1 q2 (hW.classLinks q3) hcell hobj n2 n3, if_neg (by rw [hW.alike.assignable, q4]; decide)]
    exact hq Q E d acts
theorem xt_step {tb : Tables} {e : Env} {s target : State} {f : JFrame} {c : Code} {below : List Frame} {a : Addr} (h : At s f.method c below) {pc : Nat} {vm' : Vm}
    (hfind : ∀ (Q : Handler → Pre) (E : CtlPost) (d : Bool) (acts : List Action), wp (findHandler f a) Q E e d acts ((s.setTop f).pushFrame (.throwing a)) ↔ Q (.found pc) d acts (((s.setTop f).pushFrame (.throwing a)).setVm vm'))
    (hrest : Steps tb e below ((s.setVm vm').setTop { f with pc := pc, stack := [.ref a] }) target) : Steps tb e below ((s.setTop f).pushFrame (.throwing a)) target := by
  obtain ⟨hgo, hw⟩ := h.throwing a
  refine Steps.head hgo hw ?_
  have key : (stepThrowing e ((s.setTop f).pushFrame (.throwing a)) a (.java f :: s.frames.tail)).1 = (((s.setTop f).pushFrame (.throwing a)).setVm vm').setFrames (.java { f with pc := pc, stack := [.ref a] } :: s.frames.tail) := by
    simp only [stepThrowing, searchFrame, vmDo]
    generalize hr : Sem.go _ e false [] ((s.setTop f).pushFrame (.throwing a)) = res
    obtain ⟨as, rfl, ha⟩ := Sem.eq_ok_of hr (a := Handler.found pc) (s' := ((s.setTop f).pushFrame (.throwing a)).setVm vm') (acts' := []) (by simp [hfind _ _ _ _])
    rfl
  rw [stepThread_throwing (frames_entered h.top _), key]
  obtain ⟨g₀, hg⟩ := Option.isSome_iff_exists.mp h.top
  obtain ⟨r, hr⟩ := State.topJava?_eq_some.mp hg
  have hr' : (s.setVm vm').frames = .java g₀ :: r := hr
  rw [State.setTop_of_frames _ hr'] at hrest
  have e1 : ∀ (F G : List Frame) (u : State), ((u.setFrames F).setVm vm').setFrames G = (u.setVm vm').setFrames G := by
    intro F G u
    rw [show (u.setFrames F).setVm vm' = (u.setVm vm').setFrames F from rfl, State.setFrames_setFrames]
  rw [State.pushFrame, e1, State.setTop_of_frames _ hr, e1, hr]
  exact hrest
-- a call whose callee throws, caught by the caller's own table
section XTC
variable {p : Program} {l : Launch} {e : Env} {R : Room} {s : State} {m : MethodId} {args : Array Value} {below : List Frame} {meth : Method} {c : Code} {T : State} {H : Heap} {locs : List Loc} {cells slots : Nat} {Q : State → Prop}
variable {cc : ByteArray} {pc nL : Nat} {ls : Array Slot} {rest st0 : List Value} {g : xg_G} {A : Nat → Prop} {a : Nat} {ws wc wr : va_W} {y : MethodName} {b : ByteArray} {n idx : Nat} {ret : Option FieldType} {rm : Room} {own C X : String} {av As : List Value} {k1 k2 : Nat}
theorem xt_out (Z : Stand p l e R s m args below meth c T locs cells slots) (hts : ∀ w ∈ xt_T, w.before args s = true) (hcode : Cond.code y b n ret ∈ xt_T) (hini : Cond.initialized y.cls ∈ xt_T) (hM : kc_T l y b n ret rm g av wc X) (hp : kc_P g av wc T.heap.size av.toArray T)
    {f : JFrame} (hg : f.method = m) (hsize : f.locals.size = c.maxLocals) {ig : Instr} {len : Nat} (hdg : decode c.code f.pc = .ok (ig, len)) {mk : MethodId} (hn : s.methodNamed? y = some mk) (hrm : rm.frames + 1 ≤ R.frames ∧ 8 + (n + 11) + rm.locals ≤ R.locals) (hc : cells + rm.cells ≤ R.cells) (hs : slots + rm.slots ≤ R.slots) (hW : 2 * f.monitorRoom + (f.stack.map fun v => v.category).sum ≤ 8) :
    ∃ (x : Addr) (ce : Cell) (T' : State) (L : List Loc), Stand p l e R s m args below meth c T' (locs ++ L) (cells + rm.cells) (slots + rm.slots) ∧ (∀ q ∈ L, va_A wc T.heap.size q.base) ∧ T'.heap[x]? = some ce ∧ ce.vm = .none ∧ s.vm.findClass X = some ce.cls ∧ s.vm.assignable ce.cls ce.cls = true ∧ T.heap.size ≤ T'.heap.size ∧ (∀ q : Nat, q < T.heap.size → ¬ va_A wc T.heap.size q → T'.heap[q]? = T.heap[q]?) ∧
      Steps p.tables e below (doInvoke e (T.setTop f) [] mk av.toArray).1 ((T'.setTop f).pushFrame (.throwing x)) := by
  have hnT : T.methodNamed? y = some mk := Z.named hn
  have h2 : (Cond.code y b n ret).before av.toArray T = true := word_at Z.warmed (xt_good hcode) (hts _ hcode)
  have h3 : (Cond.initialized y.cls).before av.toArray T = true := word_at Z.warmed (xt_good hini) (hts _ hini)
  have hpre : (headSpec (.code y b n ret :: xt_T) rm).pre.before av.toArray T = true := atoms_intro (fun w hw => by
    rcases List.mem_cons.mp hw with rfl | hw
    · exact h2
    · exact word_at Z.warmed (xt_good hw) (hts _ hw))
  obtain ⟨methY, cY, hmY, hcY, -, hlY, -⟩ := Cond.code_spec hnT h2
  obtain ⟨kY, hkY, -⟩ := className_of_methodNamed hnT
  have hinitY : kY.init = .initialized := Cond.initialized_spec (findClass_of_methodNamed hnT) hkY h3
  have h : At T f.method c below := by rw [hg]; exact Z.here
  have happ : (headSpec (.code y b n ret :: xt_T) rm).appliesLoose y e.platform (T.calling f mk av.toArray) = true :=
    Spec.appliesLoose_calling (g := f) h hdg hnT hkY hinitY (Z.room_calling (g := f) (R' := (headSpec (.code y b n ret :: xt_T) rm).room) hsize hmY hcY hrm.1 (by rw [hlY]; have := hrm.2; show _ + _ + _ + rm.locals ≤ _; omega) hc hs) hpre
  obtain ⟨mid, hmid⟩ := h.above
  have hfr : (T.setTop f).frames = (.java f :: mid) ++ below := by rw [State.frames_setTop' f h.top, hmid]; rfl
  obtain ⟨o, s₂, hsteps, -, hend, hq⟩ := Jvm.Free.Steps.callFree (hM T.heap.size) p Z.admits Z.cas Z.clock (acts := []) hfr happ (kc_blind _ _ f mk hp) trivial
  rw [State.frames_setTop' f h.top, Z.tail] at hend
  obtain ⟨x, ce, L, rfl, q2, q3, q4, q5, q6, q7, q8⟩ := hq
  have hF := xt_kept q7 q8
  obtain ⟨T', Z', hWT, hsm, hs2⟩ := Z.outOfThrown hg (mk := mk) (a := av.toArray) hend q6 q7
  have hheap : s₂.heap = T'.heap := by rw [hs2, Stand.throwing_heap]
  have hal := Z.warmed.alike
  refine ⟨x, ce, T', L, Z', q8, by rw [← hheap]; exact q2, q3, ?_, ?_, by rw [← hheap]; exact hF.1, fun q h1 h2 => by rw [← hheap]; exact hF.2 q h1 h2, ?_⟩
  · have h9 : T.vm.findClass X = some ce.cls := q4
    rw [hal.findClass] at h9; exact h9
  · have h9 : T.vm.assignable ce.cls ce.cls = true := q5
    rw [hal.assignable] at h9; exact h9
  · rw [← hs2]; exact hsteps
theorem xc_VT (F : xf_F g p m c cc nL s args own A) (hP : va_P g.1 vwCl ws H) (hD : va_D A ws) (hS : va_S A s.heap H locs) (hM : kc_T l y b n ret rm g (.ref a :: As) wc X) (hT : GoodIn xt_T (wsV own idx C y (.code y b n ret :: xt_T))) {k : Nat} (hd : y.cls = C ∧ y.cls ≠ "java/lang/invoke/MethodHandle" ∧ y.cls ≠ "java/lang/invoke/VarHandle" ∧ (parseMethodDescriptor y.desc).map (fun d => d.parameters.length) = some k) (q0 : Nat) {ci : Nat} {fs : List Value} {q : vw_C} (hc : vwCl[ci]? = some q) (he : ws[q0]? = some (oc_o a ci fs)) (hq : q.1 = C) (isC isR : List Nat) (hpl : xf_P ws wc wr isC isR) (hrm : xf_R R rm n cells slots k1 k2) (hlen : As.length = k) (hsz : ls.size = nL) (hst : st0 = As.reverse ++ .ref a :: rest) (hW : (rest.map fun v => v.category).sum ≤ 8) (hdg : decode cc pc = .ok (.invokevirtual idx, 3))
    {pre : List (Nat × Nat × Nat × Nat)} {z : Nat × Nat × Nat × Nat} {post : List (Nat × Nat × Nat × Nat)} (htab : c.exceptionTable.toList.map (fun h => (h.startPc, h.endPc, h.handlerPc, h.catchType)) = pre ++ z :: post) (hpre : ∀ r ∈ pre, (r.1 ≤ pc ∧ pc < r.2.1) ∧ r.2.2.2 ≠ 0 ∧ ∃ nm, Cond.classLink own r.2.2.2 nm ∈ xt_T ∧ va_Nc X nm s) (hz : (z.1 ≤ pc ∧ pc < z.2.1) ∧ z.2.2.2 ≠ 0) (hzl : Cond.classLink own z.2.2.2 X ∈ xt_T)
    (kk : ∀ (x : Nat) (H1 : Heap) (locs1 : List Loc), va_P g.1 vwCl wr H1 → va_D A wr → va_S A s.heap H1 locs1 → W p l e R s m args below meth c H1 locs1 k1 k2 Q (F0 m z.2.2.1 ls [.ref x])) : W p l e R s m args below meth c H locs cells slots Q (F0 m pc ls st0) := by
  obtain ⟨⟨hx, hb, hml, hown, hts⟩, hE, hK, hA⟩ := F
  obtain ⟨hC, hR, hnC, hnR, hdis⟩ := hpl
  obtain ⟨hrm, h1, h2, h3, h4⟩ := hrm
  subst h1; subst h2; subst hst
  obtain ⟨hC0, hy⟩ := hd
  have ok : ∀ w ∈ wsV own idx C y (.code y b n ret :: xt_T), w ∈ xt_T := fun w h => (hT w h).1
  have hlink := hts _ (ok (.methodLink own idx y) (by simp [wsV]))
  have hinst := hts _ (ok (.instanceMethod y) (by simp [wsV]))
  have hsel := hts _ (ok (.selects C y y) (by simp [wsV]))
  have hini : Cond.initialized y.cls ∈ xt_T := ok (.initialized y.cls) (by rw [hC0]; simp [wsV])
  have hcode : Cond.code y b n ret ∈ xt_T := ok (.code y b n ret) (by simp [wsV])
  have hF := va_free (wc := wc) hD hS hA isC hC
  obtain ⟨-, ⟨cellB, hcB, hoB, hclB⟩, hPc⟩ := xc_preV (As := As) hE hK hP hD hS hA isC hC hnC q0 hc he hq
  intro T hT Z
  subst hT
  obtain ⟨mk, methM, hnamed, hmethM, hstM, habM⟩ := Cond.instanceMethod_spec hinst
  obtain ⟨methM', cM, hmethM', -, -, -, -, -, -, hsigM⟩ := Cond.code_spec hnamed (hts _ hcode)
  cases hmethM.symm.trans hmethM'
  obtain ⟨c2, r2, m2, u1, u2, u3, u4, kP, hkP, hkPi⟩ := Cond.selects_spec hsel
  cases hclB.symm.trans u1
  cases (State.methodFound?_of_named hnamed ⟨hy.1, hy.2.1⟩).symm.trans u2
  cases hnamed.symm.trans u3
  have hselP : selectMethod e.platform s.vm cellB.cls mk = .method mk := by rw [Launch.admits_selectMethod Z.admits]; exact u4
  have hk : As.length = methM.sig.parameters.length := by
    have h9 := hy.2.2
    rw [hsigM] at h9
    rw [hlen]; exact (Option.some.inj h9).symm
  obtain ⟨vm₁, Z₁, hstep₁⟩ := Z.invokevirtual hx hown hlink hnamed hmethM hstM hkP hkPi ⟨hy.1, hy.2.1⟩ (a := a) (cell := cellB) hcB (fun w h => by rw [h] at hoB; cases hoB) hselP hmethM habM hkP hkPi (g := F0 m pc ls (As.reverse ++ .ref a :: rest)) rfl (argsL := As) (rest := rest) hk rfl (by rw [hb]; exact hdg)
  obtain ⟨x, ce, T', L, Z', hL, q2, q3, q4, q5, q6, q7, hsteps⟩ := xt_out (g := g) (av := .ref a :: As) (wc := wc) Z₁ hts hcode hini hM (hPc _ rfl Z₁.warmed) (f := F0 m pc ls rest) rfl (hsz.trans hml.symm) (ig := .invokevirtual idx) (len := 3) (by rw [hb]; exact hdg) hnamed hrm h3 h4 (lv_room hW)
  have hpl : e.platform.magicAccessors = ({} : Platform).magicAccessors := by rw [Z.admits.platform]
  -- the table's rows
  obtain ⟨preE, restE, hsplit, hmp, hmr⟩ := List.map_eq_append_iff.mp htab
  obtain ⟨zE, postE, hsplit2, hmz, hmo⟩ := List.map_eq_cons_iff.mp hmr
  obtain ⟨cT, hcT, hcl⟩ := Cond.classLink_spec hown (hts _ hzl) e.platform hpl
  have hzE : zE.startPc = z.1 ∧ zE.endPc = z.2.1 ∧ zE.handlerPc = z.2.2.1 ∧ zE.catchType = z.2.2.2 := by rw [← hmz]; exact ⟨rfl, rfl, rfl, rfl⟩
  have hcTe : ce.cls = cT := Option.some.inj (q4.symm.trans hcT)
  have hk0 : ∃ k, s.vm.classes[ce.cls]? = some k := Vm.classAt_of_findClass q4
  obtain ⟨vm', hW', hfind⟩ := xt_find (e := e) (s := s) (f := F0 m pc ls rest) (a := x) (cell := ce) (fun k h => by rw [q3] at h; cases h) hk0 (z := zE) (rest := postE) (by simp [covers, hzE, hz]) (by rw [hzE.2.2.2]; exact hz.2) (cT := cT) (by rw [hzE.2.2.2]; exact hcl) (by rw [← hcTe]; exact q5) preE ((T'.setTop (F0 m pc ls rest)).pushFrame (.throwing x)) (by rw [Stand.throwing_vm]; exact Z'.warmed) (by rw [Stand.throwing_heap]; exact q2) (by
    intro w hw
    obtain ⟨r1, r2, nm, r3, r4⟩ := hpre _ (by rw [← hmp]; exact List.mem_map_of_mem hw)
    obtain ⟨c9, hc9, hcl9⟩ := Cond.classLink_spec hown (hts _ r3) e.platform hpl
    obtain ⟨c8, t8, g1, g2, g3⟩ := r4
    cases q4.symm.trans g1
    cases hc9.symm.trans g2
    exact ⟨by simpa [covers] using r1, r2, c9, hcl9, g3⟩)
  have Z9 : Stand p l e R s m args below meth c (T'.setVm vm') (locs ++ L) (cells + rm.cells) (slots + rm.slots) := Z'.noted hW'
  have hheap : ∀ q : Nat, q < T.heap.size → ¬ va_A wc T.heap.size q → T'.heap[q]? = T.heap[q]? := q7
  have hP9 : va_P g.1 vwCl wr T'.heap ∧ va_D A wr := by
    obtain ⟨j1, j2⟩ := va_join (wr := wr) (w1 := []) hP hD isC isR hC hR hnR hdis hheap hF (fun k q h => by cases h) ⟨fun i j p q h => (by cases h), fun k q h => (by cases h)⟩
    rw [List.append_nil] at j1 j2
    exact ⟨j1, j2⟩
  have hS9 : va_S A s.heap T'.heap (locs ++ L) := by
    refine ⟨Nat.le_trans hS.1 q6, fun q h1 h2 => ?_, fun q hq => ?_⟩
    · rw [q7 q (Nat.lt_of_lt_of_le h1 hS.1) (fun z => h2 (hF q z))]; exact hS.2.1 q h1 h2
    · rcases List.mem_append.mp hq with h | h
      · exact hS.2.2 q h
      · exact hF _ (hL q h)
  obtain ⟨t, a1, b1⟩ := kk x T'.heap (locs ++ L) hP9.1 hP9.2 hS9 (T'.setVm vm') rfl Z9
  refine ⟨t, ?_, b1⟩
  refine hstep₁ t (fun acts => ?_)
  rw [doInvoke_state]
  refine hsteps.trans (xt_step Z'.here (vm' := vm') (pc := z.2.2.1) (fun Q E d acts => ?_) a1)
  rw [W.findHandler_eq (meth := meth) (code := c) (by rw [Stand.throwing_vm]; exact Z'.method') Z'.code, hsplit, hsplit2, hfind, hzE.2.2.1]
end XTC
end
section
-- numbers of the symbol
def xr_hh (w c : Nat) : Nat := max 3 ((w + c - 1) / c)
def xr_min (w c : Nat) : Nat := min 91 (xr_hh w c)
theorem xr_lo (w c : Nat) : 3 ≤ xr_min w c := by unfold xr_min xr_hh; omega
theorem xr_hi (w c : Nat) : xr_min w c ≤ 91 := by unfold xr_min; omega
theorem xr_le {w c i : Nat} (hc : 1 ≤ c) : (w + c - 1) / c ≤ i ↔ w ≤ i * c := by
  rw [Nat.div_le_iff_le_mul_add_pred (by omega), Nat.mul_comm]
  omega
theorem xr_up {w c r i : Nat} (hc : 1 ≤ c) (hr : r = xr_min w c) (h : i * c < w) (h2 : i ≤ 90) : i + 1 ≤ r := by
  have h3 : ¬ (w + c - 1) / c ≤ i := fun q => by have := (xr_le hc).mp q; omega
  rw [hr]; unfold xr_min xr_hh
  omega
theorem xr_end {w c r i : Nat} (hc : 1 ≤ c) (hr : r = xr_min w c) (h3 : 3 ≤ i) (hi : i ≤ r) (h : 90 < i ∨ w ≤ i * c) : nI i = nI r := by
  have h91 : r ≤ 91 := by rw [hr]; exact xr_hi w c
  rcases h with h | h
  · exact congrArg nI (by omega)
  · have h4 := (xr_le (i := i) hc).mpr h
    refine congrArg nI ?_
    rw [hr] at hi ⊢
    unfold xr_min xr_hh at hi ⊢
    omega
theorem xr_cap {w c r r9 : Nat} (hr : r = xr_hh w c) (h9 : r9 = xr_min w c) : (r ≤ 90 ∧ r9 = r) ∨ (90 < r ∧ r9 = 91) := by
  rw [h9]; unfold xr_min; rw [← hr]; omega
theorem xr_low {w c r : Nat} (hr : r = xr_hh w c) (h : r ≤ 90) : r = xr_min w c := by
  unfold xr_min; rw [← hr]; omega
theorem xr_a {K c r : Nat} (hr : r = xr_hh (1 + K) c) (h : (1 + K + c - 1) / c < 3) : 3 = r := by
  rw [hr]; unfold xr_hh; omega
theorem xr_b {K c r : Nat} (hr : r = xr_hh (1 + K) c) (h : 3 ≤ (1 + K + c - 1) / c) : (1 + K + c - 1) / c = r := by
  rw [hr]; unfold xr_hh; omega
theorem xr_shl {L K : Nat} (hL : L ≤ 8) (hK : K = 2 ^ (L + 1)) : nI 2 <<< (nI L &&& 31) = nI K := by
  subst hK
  rcases (show L = 0 ∨ L = 1 ∨ L = 2 ∨ L = 3 ∨ L = 4 ∨ L = 5 ∨ L = 6 ∨ L = 7 ∨ L = 8 by omega) with rfl | rfl | rfl | rfl | rfl | rfl | rfl | rfl | rfl <;> decide
theorem xr_K {L K : Nat} (hL : L ≤ 8) (hK : K = 2 ^ (L + 1)) : 2 ≤ K ∧ K ≤ 512 := by
  subst hK
  rcases (show L = 0 ∨ L = 1 ∨ L = 2 ∨ L = 3 ∨ L = 4 ∨ L = 5 ∨ L = 6 ∨ L = 7 ∨ L = 8 by omega) with rfl | rfl | rfl | rfl | rfl | rfl | rfl | rfl | rfl <;> decide
theorem xr_iw {r c : Nat} (hr : r ≤ 90) (h : r * c ≤ 928) : r * (c + 2) ≤ 1108 := by
  rw [Nat.mul_add]; omega
theorem xr_ix {r c i j : Nat} (hi : i < r) (hj : j ≤ c + 1) (hr : r ≤ 90) (h : r * c ≤ 928) : i * (c + 2) + j < 1108 := by
  have h1 := xr_iw hr h
  have h2 : (i + 1) * (c + 2) ≤ r * (c + 2) := Nat.mul_le_mul_right _ hi
  rw [Nat.add_mul] at h2
  omega
theorem xr_iy {r c i j : Nat} (hi : i < r) (hj1 : 1 ≤ j) (hj : j ≤ c) : i * c + j ≤ r * c := by
  have h2 : (i + 1) * c ≤ r * c := Nat.mul_le_mul_right _ hi
  rw [Nat.add_mul] at h2
  omega
theorem xr_iz {r c i : Nat} (hc : 1 ≤ c) (hi : i < r * c) (hr : r ≤ 90) (h : r * c ≤ 928) : i / c * (c + 2) + (1 + i % c) < 1108 := by
  have h1 : i / c < r := (Nat.div_lt_iff_lt_mul (by omega)).mpr hi
  have h2 : i % c < c := Nat.mod_lt _ (by omega)
  exact xr_ix h1 (by omega) hr h
theorem xr_n2 {K c r : Nat} (hc : 1 ≤ c) (hr : r = xr_hh (1 + K) c) : K + 1 ≤ r * c := by
  have h1 : (1 + K + c - 1) / c ≤ r := by rw [hr]; unfold xr_hh; omega
  have := (xr_le hc).mp h1
  omega
theorem xr_w {K c r : Nat} (hc : 1 ≤ c) (hK : K ≤ 512) (hr : r = xr_hh (1 + K) c) : r ≤ 513 := by
  have h1 : (1 + K + c - 1) / c ≤ 513 := (xr_le hc).mpr (by
    have : 513 * 1 ≤ 513 * c := Nat.mul_le_mul_left _ hc
    omega)
  rw [hr]; unfold xr_hh; omega
theorem xq_nat {x : Int32} (h : 0 ≤ x.toInt) : ∃ k : Nat, x = nI k ∧ x.toInt = (k : Int) := by
  obtain ⟨j, hj, e⟩ := nI_of (x := x) (fun h2 => by
    have := Int32.lt_iff_toInt_lt.mp h2
    have h3 : (0 : Int32).toInt = 0 := rfl
    omega)
  exact ⟨j, e, by rw [e, nI_toInt hj]⟩
-- a static that holds a reference or null
theorem xs_nar {C : String} {v : Value} (h : v = .null ∨ ∃ t, v = .ref t) : narrow (.object C) v = v := by
  rcases h with rfl | ⟨t, rfl⟩ <;> rfl
theorem xs_fit {C : String} {v : Value} (h : v = .null ∨ ∃ t, v = .ref t) : fits (.object C) v = true := by
  rcases h with rfl | ⟨t, rfl⟩ <;> rfl
section XM
variable {p : Program} {l : Launch} {e : Env} {R : Room} {s : State} {m : MethodId} {args : Array Value} {below : List Frame} {meth : Method} {c : Code} {H : Heap} {locs : List Loc} {cells slots : Nat} {Q : State → Prop}
variable {cc : ByteArray} {pc nL : Nat} {ls : Array Slot} {rest st0 : List Value} {g : xg_G} {A : Nat → Prop}
theorem xs_get (hx : p.tables.exec = Jvm.exec) (hb : c.code = cc) {C n d own ref : String} {index : Nat} (hZ : va_Zq C n d A s s.heap) (hS : va_S A s.heap H locs) (hown : s.vm.findClass own = some m.cls) (hlink : (Cond.fieldLink own index ref n d).before args s = true) (hsame : ∀ x, s.fieldFound? C n d = some x → s.fieldFound? ref n d = some x) (hdg : decode cc pc = .ok (.getstatic index, 3))
    (kk : ∀ v : Value, (v = .null ∨ ∃ t, v = .ref t) → W p l e R s m args below meth c H locs cells slots Q (F0 m (pc + 3) ls (v :: rest))) : W p l e R s m args below meth c H locs cells slots Q (F0 m pc ls rest) := by
  rcases hZ with h | ⟨t, h⟩
  · exact va_gets hx hb h hS hown hlink hsame hdg (kk _ (Or.inl rfl))
  · exact va_gets hx hb h hS hown hlink hsame hdg (kk _ (Or.inr ⟨t, rfl⟩))
theorem xo_init (hx : p.tables.exec = Jvm.exec) (hb : c.code = cc) {own : String} (hown : s.vm.findClass own = some m.cls) {idx : Nat} (hlink : (Cond.methodLink own idx Lib.objectInit).before args s = true) (hinst : (Cond.instanceMethod Lib.objectInit).before args s = true) (hcode : (Cond.code Lib.objectInit ⟨#[0xb1]⟩ 1 none).before args s = true) (hml : c.maxLocals = nL) (hsz : ls.size = nL) {a : Nat} (hf : 1 ≤ R.frames) (hlo : (rest.map fun v => v.category).sum + 12 ≤ R.locals) (hd : decode cc pc = .ok (.invokespecial idx, 3))
    (kk : W p l e R s m args below meth c H locs cells slots Q (F0 m (pc + 3) ls rest)) : W p l e R s m args below meth c H locs cells slots Q (F0 m pc ls (.ref a :: rest)) :=
  W.objInit hx hb hown hlink hinst hcode (g := F0 m pc ls (.ref a :: rest)) rfl (hsz.trans hml.symm) rfl hd hf (by show 2 * 0 + _ + 12 ≤ _; omega) kk
/-- the script's ints, by a natural index -/
theorem xa_scr (hx : p.tables.exec = Jvm.exec) (hb : c.code = cc) {b L : Nat} {xs : Nat → Int32} (hX : va_X b L xs s s.heap) (hbl : b < s.heap.size) (hbA : ¬ A b) (hS : va_S A s.heap H locs) {j : Nat} (hj : j < L) (hL : L < 2 ^ 31) (hdg : decode cc pc = .ok (.iaload, 1)) (kk : W p l e R s m args below meth c H locs cells slots Q (F0 m (pc + 1) ls (.int (xs j) :: rest))) : W p l e R s m args below meth c H locs cells slots Q (F0 m pc ls (.int (nI j) :: .ref b :: rest)) :=
  va_sld hx hb hX hbl hbA hS (vp_in_nI hj hL) hdg (by rw [nI_clamp (Nat.lt_trans hj hL)]; exact kk)
end XM
-- a method with a table of handlers
def kc_W (l : Launch) (y : MethodName) (b : ByteArray) (n : Nat) (rm : Room) (hh : List (Nat × Nat × Nat × Nat)) (g : xg_G) (av : List Value) (ws : va_W) {S : Type} (post : Int32 → S → Prop) (ws' : S → va_W) : Prop :=
  ∀ sz : Nat, Met l y (.codeWith y b n (some .int) hh :: xt_T) rm (kc_P g av ws sz) (va_Qi post (kc_B g (va_A ws sz) ws') (va_A ws sz)) rm.cells rm.slots (va_A ws sz)
theorem kc_Wof {l : Launch} {y : MethodName} {b : ByteArray} {n : Nat} {rm : Room} {hh : List (Nat × Nat × Nat × Nat)} {g : xg_G} {av : List Value} {ws : va_W} {S : Type} {post : Int32 → S → Prop} {ws' : S → va_W} (hy : plainName y.cls = true) (hal : (lg_sl av).length ≤ n)
    (body : ∀ (p : Program) (e : Env) (s : State) (m : MethodId) (args : Array Value) (below : List Frame) (meth : Method) (c : Code) (A : Nat → Prop) (ls : Array Slot) (Q : State → Prop) (H : Heap) (locs : List Loc), (∀ t, MQ below (va_Qi post (kc_B g A ws') A) args s rm.cells rm.slots A t → Q t) → xb_B g y b n (some .int) av ws p s m args meth c A ls → va_P g.1 vwCl ws H → va_S A s.heap H locs → c.exceptionTable.toList.map (fun h => (h.startPc, h.endPc, h.handlerPc, h.catchType)) = hh → W p l e rm s m args below meth c H locs 0 0 Q (F0 m 0 ls [])) : kc_W l y b n rm hh g av ws post ws' := by
  intro sz
  refine va_MetW (cc := b) (maxL := n) (ret := some .int) (hh := hh) hy rfl ?_
  intro p e s m args below meth c s₁ B hml hv
  obtain ⟨m9, meth9, c9, q1, q2, q3, -, -, q4, -⟩ := Cond.codeWith_spec (atoms_spec (ws := .codeWith y b n (some .int) hh :: xt_T) B.pre _ List.mem_cons_self)
  cases B.named.symm.trans q1
  cases B.method.symm.trans q2
  cases (Stand.of_body B).code.symm.trans q3
  obtain ⟨ls, e1, -, hP, hB⟩ := xb_get hal B hml hv
  rw [e1]
  exact body p e s m args below meth c _ ls _ _ _ (fun _ h => h) hB hP va_S.rf q4
section XW
variable {p : Program} {l : Launch} {e : Env} {R : Room} {s : State} {m : MethodId} {args : Array Value} {below : List Frame} {meth : Method} {c : Code} {H : Heap} {locs : List Loc} {cells slots : Nat} {Q : State → Prop}
variable {cc : ByteArray} {pc nL : Nat} {ls : Array Slot} {rest st0 : List Value} {g : xg_G} {A : Nat → Prop} {a : Nat} {ws wc wr : va_W} {S : Type} {ws' : S → va_W} {y : MethodName} {b : ByteArray} {n idx : Nat} {rm : Room} {own : String} {As : List Value} {k1 k2 : Nat} {hh : List (Nat × Nat × Nat × Nat)}
theorem xc_SWi {post : Int32 → S → Prop} (F : xf_F g p m c cc nL s args own A) (hP : va_P g.1 vwCl ws H) (hD : va_D A ws) (hS : va_S A s.heap H locs) (hM : kc_W l y b n rm hh g As wc post ws') (hcode : Cond.codeWith y b n (some .int) hh ∈ xt_T) (hini : Cond.initialized y.cls ∈ xt_T) (hlk : Cond.methodLink own idx y ∈ xt_T) (hst9 : Cond.static y ∈ xt_T) {k : Nat} (hd : y.cls ≠ "java/lang/invoke/MethodHandle" ∧ y.cls ≠ "java/lang/invoke/VarHandle" ∧ (parseMethodDescriptor y.desc).map (fun d => d.parameters.length) = some k) (isC isR : List Nat) (hpl : xf_P ws wc wr isC isR) (hrm : xf_R R rm n cells slots k1 k2) (hlen : As.length = k) (hsz : ls.size = nL) (hst : st0 = As.reverse ++ rest) (hW : (rest.map fun v => v.category).sum ≤ 8) (hdg : decode cc pc = .ok (.invokestatic idx, 3))
    (kk : ∀ (r : Int32) (u : S) (H1 : Heap) (locs1 : List Loc), post r u → va_P g.1 vwCl (wr ++ ws' u) H1 → va_D A (wr ++ ws' u) → va_S A s.heap H1 locs1 → W p l e R s m args below meth c H1 locs1 k1 k2 Q (F0 m (pc + 3) ls (.int r :: rest))) : W p l e R s m args below meth c H locs cells slots Q (F0 m pc ls st0) := by
  obtain ⟨⟨hx, hb, hml, hown, hts⟩, hE, hK, hA⟩ := F
  obtain ⟨hC, hR, hnC, hnR, hdis⟩ := hpl
  obtain ⟨hrm, h1, h2, h3, h4⟩ := hrm
  have hpre := xc_pre (av := As) hE hK hP hD hS hA isC hC hnC
  have hG : GoodIn xt_T (.codeWith y b n (some .int) hh :: xt_T) := fun w hw => by
    rcases List.mem_cons.mp hw with rfl | hw
    · exact ⟨hcode, xt_good hcode⟩
    · exact ⟨hw, xt_good hw⟩
  have hBk : Back l R p e below s args y 3 8 (PreOf R rm.cells rm.slots (kc_P g As wc H.size)) (PostOf (va_Qi post (kc_B g (va_A wc H.size) ws') (va_A wc H.size)) rm.cells rm.slots (va_A wc H.size)) :=
    va_backW (hh := hh) (bytes := b) (maxL := n) (ret := some .int) (hM H.size) kc_blind rfl rfl hrm.1 hrm.2 (pay_in hts hG) List.mem_cons_self (fun a' U hW => word_at hW (xt_good hini) (hts _ hini))
  refine xc_iG (rm := rm) (wc := wc) (rest := rest) (av := As.toArray) ?_ hP hD hS hA isC isR hC hR hnR hdis h1 h2 kk
  intro T hT Z
  obtain ⟨mk, methM, cM, hnamed, hmethM, hcodeM, -, -, -, -, -, hsigM⟩ := Cond.codeWith_spec (hts _ hcode)
  have hstatic : methM.isStatic = true := Cond.static_spec hnamed hmethM (hts _ hst9)
  obtain ⟨kP, hkP, -⟩ := className_of_methodNamed hnamed
  have hinitP : kP.init = .initialized := Cond.initialized_spec (findClass_of_methodNamed hnamed) hkP (hts _ hini)
  have hk : As.length = methM.sig.parameters.length := by
    have h9 := hd.2.2
    rw [hsigM] at h9
    rw [hlen]; exact (Option.some.inj h9).symm
  subst hst
  obtain ⟨vm₁, Z₁, hstep₁⟩ := Z.invokestatic hx hown (hts _ hlk) hnamed hmethM hstatic hkP hinitP ⟨hd.1, hd.2.1⟩ (g := F0 m pc ls (As.reverse ++ rest)) rfl (argsL := As) (rest := rest) hk rfl (by rw [hb]; exact hdg)
  obtain ⟨v, ⟨U', l2, c2, s2⟩, Z', ⟨g', mk', t, L, e1, e2, hq, w1, hL, w2, w3⟩, hsteps⟩ := hBk m meth c ⟨T.setVm vm₁, locs, cells, slots⟩ (F0 m pc ls rest) (.invokestatic idx) mk As.toArray Z₁ rfl (hsz.trans hml.symm) (by rw [hb]; exact hdg) (lv_room hW) (Z₁.named hnamed) ⟨by rw [h1]; exact h3, by rw [h2]; exact h4, hpre.2 (T.setVm vm₁) hT Z₁.warmed⟩
  dsimp only [Pt.U, Pt.locs, Pt.cells, Pt.slots] at Z' e1 e2 w1 w2 w3 hsteps
  subst w1; subst w2; subst w3
  exact ⟨v, (T.setVm vm₁).calling g' mk' As.toArray, t, U', L, hT, Z', hL, e1, e2, hq, fun target h => hstep₁ _ fun acts => by rw [doInvoke_state]; exact hsteps.trans h⟩
end XW
end
section
section XX
variable {p : Program} {l : Launch} {e : Env} {R : Room} {s : State} {m : MethodId} {args : Array Value} {below : List Frame} {meth : Method} {c : Code} {H : Heap} {locs : List Loc} {cells slots : Nat} {Q : State → Prop}
variable {cc : ByteArray} {pc nL : Nat} {ls : Array Slot} {rest : List Value} {g : xg_G} {A : Nat → Prop} {a : Nat} {ws : va_W} {k1 k2 : Nat}
theorem cl_SR_112 : Cond.classLink "StackedRows" 112 "java/lang/IllegalStateException" ∈ xt_T := xt_in (List.mem_of_getElem? (i := 811) (by decide +kernel)) (by decide +kernel)
theorem cl_SR_59 : Cond.classLink "StackedRows" 59 "java/lang/UnsupportedOperationException" ∈ xt_T := xt_in (List.mem_of_getElem? (i := 591) (by decide +kernel)) (by decide +kernel)
theorem cl_SR_69 : Cond.classLink "StackedRows" 69 "java/lang/IllegalArgumentException" ∈ xt_T := xt_in (List.mem_of_getElem? (i := 675) (by decide +kernel)) (by decide +kernel)
theorem cl_SR_75 : Cond.classLink "StackedRows" 75 "java/lang/IndexOutOfBoundsException" ∈ xt_T := xt_in (List.mem_of_getElem? (i := 702) (by decide +kernel)) (by decide +kernel)
theorem cl_LW_13 : Cond.classLink "StackedRowsLaw" 13 "java/lang/UnsupportedOperationException" ∈ xt_T := xt_in (List.mem_of_getElem? (i := 585) (by decide +kernel)) (by decide +kernel)
theorem cl_LW_19 : Cond.classLink "StackedRowsLaw" 19 "java/lang/IllegalArgumentException" ∈ xt_T := xt_in (List.mem_of_getElem? (i := 670) (by decide +kernel)) (by decide +kernel)
theorem cl_LW_25 : Cond.classLink "StackedRowsLaw" 25 "java/lang/IndexOutOfBoundsException" ∈ xt_T := xt_in (List.mem_of_getElem? (i := 697) (by decide +kernel)) (by decide +kernel)
theorem cl_LW_41 : Cond.classLink "StackedRowsLaw" 41 "java/lang/IllegalStateException" ∈ xt_T := xt_in (List.mem_of_getElem? (i := 802) (by decide +kernel)) (by decide +kernel)
theorem wn_XA : Cond.initialized "java/lang/IllegalArgumentException" ∈ xt_T := xt_in (List.mem_of_getElem? (i := 90) (by decide +kernel)) (by decide +kernel)
theorem wn_XS : Cond.initialized "java/lang/IllegalStateException" ∈ xt_T := xt_in (List.mem_of_getElem? (i := 98) (by decide +kernel)) (by decide +kernel)
theorem wn_XI : Cond.initialized "java/lang/IndexOutOfBoundsException" ∈ xt_T := xt_in (List.mem_of_getElem? (i := 91) (by decide +kernel)) (by decide +kernel)
theorem wn_XU : Cond.initialized "java/lang/UnsupportedOperationException" ∈ xt_T := xt_in (List.mem_of_getElem? (i := 89) (by decide +kernel)) (by decide +kernel)
theorem wk_XA : Cond.instantiable "java/lang/IllegalArgumentException" 6 ∈ xt_T := xt_in (List.mem_of_getElem? (i := 676) (by decide +kernel)) (by decide +kernel)
theorem wk_XS : Cond.instantiable "java/lang/IllegalStateException" 6 ∈ xt_T := xt_in (List.mem_of_getElem? (i := 812) (by decide +kernel)) (by decide +kernel)
theorem wk_XI : Cond.instantiable "java/lang/IndexOutOfBoundsException" 6 ∈ xt_T := xt_in (List.mem_of_getElem? (i := 703) (by decide +kernel)) (by decide +kernel)
theorem wk_XU : Cond.instantiable "java/lang/UnsupportedOperationException" 6 ∈ xt_T := xt_in (List.mem_of_getElem? (i := 592) (by decide +kernel)) (by decide +kernel)
theorem wc_BN_init : Cond.code yy_BN_init cd_BN_init 3 none ∈ xt_T := xt_in (List.mem_of_getElem? (i := 163) (by decide +kernel)) (by decide +kernel)
theorem wn_BN : Cond.initialized "StackedRows$BigNumber" ∈ xt_T := xt_in (List.mem_of_getElem? (i := 78) (by decide +kernel)) (by decide +kernel)
theorem wi_BN_init : Cond.instanceMethod yy_BN_init ∈ xt_T := xt_in (List.mem_of_getElem? (i := 162) (by decide +kernel)) (by decide +kernel)
theorem wc_CK_init : Cond.code yy_CK_init cd_CK_init 1 none ∈ xt_T := xt_in (List.mem_of_getElem? (i := 204) (by decide +kernel)) (by decide +kernel)
theorem wn_CK : Cond.initialized "StackedRows$Checks" ∈ xt_T := xt_in (List.mem_of_getElem? (i := 80) (by decide +kernel)) (by decide +kernel)
theorem wi_CK_init : Cond.instanceMethod yy_CK_init ∈ xt_T := xt_in (List.mem_of_getElem? (i := 203) (by decide +kernel)) (by decide +kernel)
theorem wc_CK_divide : Cond.code yy_CK_divide cd_CK_divide 7 none ∈ xt_T := xt_in (List.mem_of_getElem? (i := 764) (by decide +kernel)) (by decide +kernel)
theorem wi_CK_divide : Cond.instanceMethod yy_CK_divide ∈ xt_T := xt_in (List.mem_of_getElem? (i := 763) (by decide +kernel)) (by decide +kernel)
theorem wx_CK_divide : Cond.selects "StackedRows$Checks" yy_CK_divide yy_CK_divide ∈ xt_T := xt_in (List.mem_of_getElem? (i := 14) (by decide +kernel)) (by decide +kernel)
theorem wc_CK_multiplyFactors : Cond.code yy_CK_multiplyFactors cd_CK_multiplyFactors 6 none ∈ xt_T := xt_in (List.mem_of_getElem? (i := 757) (by decide +kernel)) (by decide +kernel)
theorem wi_CK_multiplyFactors : Cond.instanceMethod yy_CK_multiplyFactors ∈ xt_T := xt_in (List.mem_of_getElem? (i := 756) (by decide +kernel)) (by decide +kernel)
theorem wx_CK_multiplyFactors : Cond.selects "StackedRows$Checks" yy_CK_multiplyFactors yy_CK_multiplyFactors ∈ xt_T := xt_in (List.mem_of_getElem? (i := 13) (by decide +kernel)) (by decide +kernel)
theorem wc_CK_write : Cond.code yy_CK_write cd_CK_write 5 none ∈ xt_T := xt_in (List.mem_of_getElem? (i := 753) (by decide +kernel)) (by decide +kernel)
theorem wi_CK_write : Cond.instanceMethod yy_CK_write ∈ xt_T := xt_in (List.mem_of_getElem? (i := 751) (by decide +kernel)) (by decide +kernel)
theorem wx_CK_write : Cond.selects "StackedRows$Checks" yy_CK_write yy_CK_write ∈ xt_T := xt_in (List.mem_of_getElem? (i := 752) (by decide +kernel)) (by decide +kernel)
theorem wc_CW_init : Cond.code yy_CW_init cd_CW_init 1 none ∈ xt_T := xt_in (List.mem_of_getElem? (i := 132) (by decide +kernel)) (by decide +kernel)
theorem wn_CW : Cond.initialized "StackedRows$Codewords" ∈ xt_T := xt_in (List.mem_of_getElem? (i := 74) (by decide +kernel)) (by decide +kernel)
theorem wi_CW_init : Cond.instanceMethod yy_CW_init ∈ xt_T := xt_in (List.mem_of_getElem? (i := 131) (by decide +kernel)) (by decide +kernel)
theorem wc_CW_clear : Cond.code yy_CW_clear cd_CW_clear 1 none ∈ xt_T := xt_in (List.mem_of_getElem? (i := 387) (by decide +kernel)) (by decide +kernel)
theorem wi_CW_clear : Cond.instanceMethod yy_CW_clear ∈ xt_T := xt_in (List.mem_of_getElem? (i := 385) (by decide +kernel)) (by decide +kernel)
theorem wx_CW_clear : Cond.selects "StackedRows$Codewords" yy_CW_clear yy_CW_clear ∈ xt_T := xt_in (List.mem_of_getElem? (i := 386) (by decide +kernel)) (by decide +kernel)
theorem wc_CW_size : Cond.code yy_CW_size cd_CW_size 1 (some .int) ∈ xt_T := xt_in (List.mem_of_getElem? (i := 581) (by decide +kernel)) (by decide +kernel)
theorem wi_CW_size : Cond.instanceMethod yy_CW_size ∈ xt_T := xt_in (List.mem_of_getElem? (i := 579) (by decide +kernel)) (by decide +kernel)
theorem wx_CW_size : Cond.selects "StackedRows$Codewords" yy_CW_size yy_CW_size ∈ xt_T := xt_in (List.mem_of_getElem? (i := 580) (by decide +kernel)) (by decide +kernel)
theorem wc_MD_init : Cond.code yy_MD_init cd_MD_init 2 none ∈ xt_T := xt_in (List.mem_of_getElem? (i := 236) (by decide +kernel)) (by decide +kernel)
theorem wn_MD : Cond.initialized "StackedRows$Mender" ∈ xt_T := xt_in (List.mem_of_getElem? (i := 83) (by decide +kernel)) (by decide +kernel)
theorem wi_MD_init : Cond.instanceMethod yy_MD_init ∈ xt_T := xt_in (List.mem_of_getElem? (i := 235) (by decide +kernel)) (by decide +kernel)
theorem wc_RD_init : Cond.code yy_RD_init cd_RD_init 3 none ∈ xt_T := xt_in (List.mem_of_getElem? (i := 272) (by decide +kernel)) (by decide +kernel)
theorem wn_RD : Cond.initialized "StackedRows$Reader" ∈ xt_T := xt_in (List.mem_of_getElem? (i := 84) (by decide +kernel)) (by decide +kernel)
theorem wi_RD_init : Cond.instanceMethod yy_RD_init ∈ xt_T := xt_in (List.mem_of_getElem? (i := 271) (by decide +kernel)) (by decide +kernel)
theorem wc_SV_init : Cond.code yy_SV_init cd_SV_init 2 none ∈ xt_T := xt_in (List.mem_of_getElem? (i := 230) (by decide +kernel)) (by decide +kernel)
theorem wn_SV : Cond.initialized "StackedRows$Solver" ∈ xt_T := xt_in (List.mem_of_getElem? (i := 82) (by decide +kernel)) (by decide +kernel)
theorem wi_SV_init : Cond.instanceMethod yy_SV_init ∈ xt_T := xt_in (List.mem_of_getElem? (i := 229) (by decide +kernel)) (by decide +kernel)
theorem wc_SY_init : Cond.code yy_SY_init cd_SY_init 1 none ∈ xt_T := xt_in (List.mem_of_getElem? (i := 214) (by decide +kernel)) (by decide +kernel)
theorem wn_SY : Cond.initialized "StackedRows$Symbol" ∈ xt_T := xt_in (List.mem_of_getElem? (i := 81) (by decide +kernel)) (by decide +kernel)
theorem wi_SY_init : Cond.instanceMethod yy_SY_init ∈ xt_T := xt_in (List.mem_of_getElem? (i := 213) (by decide +kernel)) (by decide +kernel)
theorem wc_SY_begin : Cond.code yy_SY_begin cd_SY_begin 3 none ∈ xt_T := xt_in (List.mem_of_getElem? (i := 768) (by decide +kernel)) (by decide +kernel)
theorem wi_SY_begin : Cond.instanceMethod yy_SY_begin ∈ xt_T := xt_in (List.mem_of_getElem? (i := 766) (by decide +kernel)) (by decide +kernel)
theorem wx_SY_begin : Cond.selects "StackedRows$Symbol" yy_SY_begin yy_SY_begin ∈ xt_T := xt_in (List.mem_of_getElem? (i := 767) (by decide +kernel)) (by decide +kernel)
theorem wc_SY_columns : Cond.code yy_SY_columns cd_SY_columns 1 (some .int) ∈ xt_T := xt_in (List.mem_of_getElem? (i := 869) (by decide +kernel)) (by decide +kernel)
theorem wi_SY_columns : Cond.instanceMethod yy_SY_columns ∈ xt_T := xt_in (List.mem_of_getElem? (i := 867) (by decide +kernel)) (by decide +kernel)
theorem wx_SY_columns : Cond.selects "StackedRows$Symbol" yy_SY_columns yy_SY_columns ∈ xt_T := xt_in (List.mem_of_getElem? (i := 868) (by decide +kernel)) (by decide +kernel)
theorem wc_SY_fill : Cond.code yy_SY_fill cd_SY_fill 5 none ∈ xt_T := xt_in (List.mem_of_getElem? (i := 773) (by decide +kernel)) (by decide +kernel)
theorem wi_SY_fill : Cond.instanceMethod yy_SY_fill ∈ xt_T := xt_in (List.mem_of_getElem? (i := 771) (by decide +kernel)) (by decide +kernel)
theorem wx_SY_fill : Cond.selects "StackedRows$Symbol" yy_SY_fill yy_SY_fill ∈ xt_T := xt_in (List.mem_of_getElem? (i := 772) (by decide +kernel)) (by decide +kernel)
theorem wc_SY_has : Cond.code yy_SY_has cd_SY_has 3 (some .boolean) ∈ xt_T := xt_in (List.mem_of_getElem? (i := 788) (by decide +kernel)) (by decide +kernel)
theorem wi_SY_has : Cond.instanceMethod yy_SY_has ∈ xt_T := xt_in (List.mem_of_getElem? (i := 786) (by decide +kernel)) (by decide +kernel)
theorem wx_SY_has : Cond.selects "StackedRows$Symbol" yy_SY_has yy_SY_has ∈ xt_T := xt_in (List.mem_of_getElem? (i := 787) (by decide +kernel)) (by decide +kernel)
theorem wc_SY_indicated : Cond.code yy_SY_indicated cd_SY_indicated 3 (some .int) ∈ xt_T := xt_in (List.mem_of_getElem? (i := 780) (by decide +kernel)) (by decide +kernel)
theorem wi_SY_indicated : Cond.instanceMethod yy_SY_indicated ∈ xt_T := xt_in (List.mem_of_getElem? (i := 779) (by decide +kernel)) (by decide +kernel)
theorem wx_SY_indicated : Cond.selects "StackedRows$Symbol" yy_SY_indicated yy_SY_indicated ∈ xt_T := xt_in (List.mem_of_getElem? (i := 15) (by decide +kernel)) (by decide +kernel)
theorem wc_SY_isThere : Cond.code yy_SY_isThere cd_SY_isThere 1 (some .boolean) ∈ xt_T := xt_in (List.mem_of_getElem? (i := 810) (by decide +kernel)) (by decide +kernel)
theorem wi_SY_isThere : Cond.instanceMethod yy_SY_isThere ∈ xt_T := xt_in (List.mem_of_getElem? (i := 808) (by decide +kernel)) (by decide +kernel)
theorem wx_SY_isThere : Cond.selects "StackedRows$Symbol" yy_SY_isThere yy_SY_isThere ∈ xt_T := xt_in (List.mem_of_getElem? (i := 809) (by decide +kernel)) (by decide +kernel)
theorem wc_SY_leftKind : Cond.code yy_SY_leftKind cd_SY_leftKind 1 (some .int) ∈ xt_T := xt_in (List.mem_of_getElem? (i := 776) (by decide +kernel)) (by decide +kernel)
theorem wz_SY_leftKind : Cond.static yy_SY_leftKind ∈ xt_T := xt_in (List.mem_of_getElem? (i := 775) (by decide +kernel)) (by decide +kernel)
theorem wc_SY_rightKind : Cond.code yy_SY_rightKind cd_SY_rightKind 1 (some .int) ∈ xt_T := xt_in (List.mem_of_getElem? (i := 791) (by decide +kernel)) (by decide +kernel)
theorem wz_SY_rightKind : Cond.static yy_SY_rightKind ∈ xt_T := xt_in (List.mem_of_getElem? (i := 790) (by decide +kernel)) (by decide +kernel)
theorem wc_SY_rows : Cond.code yy_SY_rows cd_SY_rows 1 (some .int) ∈ xt_T := xt_in (List.mem_of_getElem? (i := 858) (by decide +kernel)) (by decide +kernel)
theorem wi_SY_rows : Cond.instanceMethod yy_SY_rows ∈ xt_T := xt_in (List.mem_of_getElem? (i := 856) (by decide +kernel)) (by decide +kernel)
theorem wx_SY_rows : Cond.selects "StackedRows$Symbol" yy_SY_rows yy_SY_rows ∈ xt_T := xt_in (List.mem_of_getElem? (i := 857) (by decide +kernel)) (by decide +kernel)
theorem wc_SY_set : Cond.code yy_SY_set cd_SY_set 4 none ∈ xt_T := xt_in (List.mem_of_getElem? (i := 784) (by decide +kernel)) (by decide +kernel)
theorem wi_SY_set : Cond.instanceMethod yy_SY_set ∈ xt_T := xt_in (List.mem_of_getElem? (i := 782) (by decide +kernel)) (by decide +kernel)
theorem wx_SY_set : Cond.selects "StackedRows$Symbol" yy_SY_set yy_SY_set ∈ xt_T := xt_in (List.mem_of_getElem? (i := 783) (by decide +kernel)) (by decide +kernel)
theorem wc_TP_init : Cond.code yy_TP_init cd_TP_init 1 none ∈ xt_T := xt_in (List.mem_of_getElem? (i := 112) (by decide +kernel)) (by decide +kernel)
theorem wn_TP : Cond.initialized "StackedRows$Tape" ∈ xt_T := xt_in (List.mem_of_getElem? (i := 72) (by decide +kernel)) (by decide +kernel)
theorem wi_TP_init : Cond.instanceMethod yy_TP_init ∈ xt_T := xt_in (List.mem_of_getElem? (i := 111) (by decide +kernel)) (by decide +kernel)
theorem wc_TP_add : Cond.code yy_TP_add cd_TP_add 2 none ∈ xt_T := xt_in (List.mem_of_getElem? (i := 662) (by decide +kernel)) (by decide +kernel)
theorem wi_TP_add : Cond.instanceMethod yy_TP_add ∈ xt_T := xt_in (List.mem_of_getElem? (i := 660) (by decide +kernel)) (by decide +kernel)
theorem wx_TP_add : Cond.selects "StackedRows$Tape" yy_TP_add yy_TP_add ∈ xt_T := xt_in (List.mem_of_getElem? (i := 661) (by decide +kernel)) (by decide +kernel)
theorem wc_TP_addFour : Cond.code yy_TP_addFour cd_TP_addFour 3 none ∈ xt_T := xt_in (List.mem_of_getElem? (i := 658) (by decide +kernel)) (by decide +kernel)
theorem wi_TP_addFour : Cond.instanceMethod yy_TP_addFour ∈ xt_T := xt_in (List.mem_of_getElem? (i := 656) (by decide +kernel)) (by decide +kernel)
theorem wx_TP_addFour : Cond.selects "StackedRows$Tape" yy_TP_addFour yy_TP_addFour ∈ xt_T := xt_in (List.mem_of_getElem? (i := 657) (by decide +kernel)) (by decide +kernel)
theorem wc_TP_cut : Cond.code yy_TP_cut cd_TP_cut 2 none ∈ xt_T := xt_in (List.mem_of_getElem? (i := 693) (by decide +kernel)) (by decide +kernel)
theorem wi_TP_cut : Cond.instanceMethod yy_TP_cut ∈ xt_T := xt_in (List.mem_of_getElem? (i := 691) (by decide +kernel)) (by decide +kernel)
theorem wx_TP_cut : Cond.selects "StackedRows$Tape" yy_TP_cut yy_TP_cut ∈ xt_T := xt_in (List.mem_of_getElem? (i := 692) (by decide +kernel)) (by decide +kernel)
theorem wc_TP_size : Cond.code yy_TP_size cd_TP_size 1 (some .int) ∈ xt_T := xt_in (List.mem_of_getElem? (i := 363) (by decide +kernel)) (by decide +kernel)
theorem wi_TP_size : Cond.instanceMethod yy_TP_size ∈ xt_T := xt_in (List.mem_of_getElem? (i := 361) (by decide +kernel)) (by decide +kernel)
theorem wx_TP_size : Cond.selects "StackedRows$Tape" yy_TP_size yy_TP_size ∈ xt_T := xt_in (List.mem_of_getElem? (i := 362) (by decide +kernel)) (by decide +kernel)
theorem wc_TW_init : Cond.code yy_TW_init cd_TW_init 2 none ∈ xt_T := xt_in (List.mem_of_getElem? (i := 145) (by decide +kernel)) (by decide +kernel)
theorem wn_TW : Cond.initialized "StackedRows$TextWriter" ∈ xt_T := xt_in (List.mem_of_getElem? (i := 75) (by decide +kernel)) (by decide +kernel)
theorem wi_TW_init : Cond.instanceMethod yy_TW_init ∈ xt_T := xt_in (List.mem_of_getElem? (i := 144) (by decide +kernel)) (by decide +kernel)
theorem wc_TW_beginWithCapitals : Cond.code yy_TW_beginWithCapitals cd_TW_beginWithCapitals 1 none ∈ xt_T := xt_in (List.mem_of_getElem? (i := 383) (by decide +kernel)) (by decide +kernel)
theorem wi_TW_beginWithCapitals : Cond.instanceMethod yy_TW_beginWithCapitals ∈ xt_T := xt_in (List.mem_of_getElem? (i := 381) (by decide +kernel)) (by decide +kernel)
theorem wx_TW_beginWithCapitals : Cond.selects "StackedRows$TextWriter" yy_TW_beginWithCapitals yy_TW_beginWithCapitals ∈ xt_T := xt_in (List.mem_of_getElem? (i := 382) (by decide +kernel)) (by decide +kernel)
theorem wc_WR_init : Cond.code yy_WR_init cd_WR_init 2 none ∈ xt_T := xt_in (List.mem_of_getElem? (i := 126) (by decide +kernel)) (by decide +kernel)
theorem wn_WR : Cond.initialized "StackedRows$Writer" ∈ xt_T := xt_in (List.mem_of_getElem? (i := 73) (by decide +kernel)) (by decide +kernel)
theorem wi_WR_init : Cond.instanceMethod yy_WR_init ∈ xt_T := xt_in (List.mem_of_getElem? (i := 125) (by decide +kernel)) (by decide +kernel)
theorem wc_WR_forget : Cond.code yy_WR_forget cd_WR_forget 1 none ∈ xt_T := xt_in (List.mem_of_getElem? (i := 666) (by decide +kernel)) (by decide +kernel)
theorem wi_WR_forget : Cond.instanceMethod yy_WR_forget ∈ xt_T := xt_in (List.mem_of_getElem? (i := 664) (by decide +kernel)) (by decide +kernel)
theorem wx_WR_forget : Cond.selects "StackedRows$Writer" yy_WR_forget yy_WR_forget ∈ xt_T := xt_in (List.mem_of_getElem? (i := 665) (by decide +kernel)) (by decide +kernel)
theorem wc_WR_measure : Cond.code yy_WR_measure cd_WR_measure 3 none ∈ xt_T := xt_in (List.mem_of_getElem? (i := 367) (by decide +kernel)) (by decide +kernel)
theorem wi_WR_measure : Cond.instanceMethod yy_WR_measure ∈ xt_T := xt_in (List.mem_of_getElem? (i := 366) (by decide +kernel)) (by decide +kernel)
theorem wx_WR_measure : Cond.selects "StackedRows$Writer" yy_WR_measure yy_WR_measure ∈ xt_T := xt_in (List.mem_of_getElem? (i := 0) (by decide +kernel)) (by decide +kernel)
theorem wc_WR_size : Cond.code yy_WR_size cd_WR_size 1 (some .int) ∈ xt_T := xt_in (List.mem_of_getElem? (i := 577) (by decide +kernel)) (by decide +kernel)
theorem wi_WR_size : Cond.instanceMethod yy_WR_size ∈ xt_T := xt_in (List.mem_of_getElem? (i := 575) (by decide +kernel)) (by decide +kernel)
theorem wx_WR_size : Cond.selects "StackedRows$Writer" yy_WR_size yy_WR_size ∈ xt_T := xt_in (List.mem_of_getElem? (i := 576) (by decide +kernel)) (by decide +kernel)
theorem wc_WR_write : Cond.code yy_WR_write cd_WR_write 3 none ∈ xt_T := xt_in (List.mem_of_getElem? (i := 359) (by decide +kernel)) (by decide +kernel)
theorem wi_WR_write : Cond.instanceMethod yy_WR_write ∈ xt_T := xt_in (List.mem_of_getElem? (i := 357) (by decide +kernel)) (by decide +kernel)
theorem wx_WR_write : Cond.selects "StackedRows$Writer" yy_WR_write yy_WR_write ∈ xt_T := xt_in (List.mem_of_getElem? (i := 358) (by decide +kernel)) (by decide +kernel)
theorem wc_SR_init : Cond.code yy_SR_init cd_SR_init 1 none ∈ xt_T := xt_in (List.mem_of_getElem? (i := 104) (by decide +kernel)) (by decide +kernel)
theorem wn_SR : Cond.initialized "StackedRows" ∈ xt_T := xt_in (List.mem_of_getElem? (i := 71) (by decide +kernel)) (by decide +kernel)
theorem wi_SR_init : Cond.instanceMethod yy_SR_init ∈ xt_T := xt_in (List.mem_of_getElem? (i := 103) (by decide +kernel)) (by decide +kernel)
theorem wc_SR_blank : Cond.code yy_SR_blank cd_SR_blank 3 none ∈ xt_T := xt_in (List.mem_of_getElem? (i := 798) (by decide +kernel)) (by decide +kernel)
theorem wi_SR_blank : Cond.instanceMethod yy_SR_blank ∈ xt_T := xt_in (List.mem_of_getElem? (i := 796) (by decide +kernel)) (by decide +kernel)
theorem wx_SR_blank : Cond.selects "StackedRows" yy_SR_blank yy_SR_blank ∈ xt_T := xt_in (List.mem_of_getElem? (i := 797) (by decide +kernel)) (by decide +kernel)
theorem wc_SR_byteAt : Cond.code yy_SR_byteAt cd_SR_byteAt 2 (some .int) ∈ xt_T := xt_in (List.mem_of_getElem? (i := 701) (by decide +kernel)) (by decide +kernel)
theorem wi_SR_byteAt : Cond.instanceMethod yy_SR_byteAt ∈ xt_T := xt_in (List.mem_of_getElem? (i := 699) (by decide +kernel)) (by decide +kernel)
theorem wx_SR_byteAt : Cond.selects "StackedRows" yy_SR_byteAt yy_SR_byteAt ∈ xt_T := xt_in (List.mem_of_getElem? (i := 700) (by decide +kernel)) (by decide +kernel)
theorem wc_SR_checksOf : Cond.code yy_SR_checksOf cd_SR_checksOf 1 (some .int) ∈ xt_T := xt_in (List.mem_of_getElem? (i := 742) (by decide +kernel)) (by decide +kernel)
theorem wz_SR_checksOf : Cond.static yy_SR_checksOf ∈ xt_T := xt_in (List.mem_of_getElem? (i := 741) (by decide +kernel)) (by decide +kernel)
theorem wc_SR_codeword : Cond.code yy_SR_codeword cd_SR_codeword 2 (some .int) ∈ xt_T := xt_in (List.mem_of_getElem? (i := 724) (by decide +kernel)) (by decide +kernel)
theorem wi_SR_codeword : Cond.instanceMethod yy_SR_codeword ∈ xt_T := xt_in (List.mem_of_getElem? (i := 722) (by decide +kernel)) (by decide +kernel)
theorem wx_SR_codeword : Cond.selects "StackedRows" yy_SR_codeword yy_SR_codeword ∈ xt_T := xt_in (List.mem_of_getElem? (i := 723) (by decide +kernel)) (by decide +kernel)
theorem wc_SR_codewords : Cond.code yy_SR_codewords cd_SR_codewords 1 (some .int) ∈ xt_T := xt_in (List.mem_of_getElem? (i := 355) (by decide +kernel)) (by decide +kernel)
theorem wi_SR_codewords : Cond.instanceMethod yy_SR_codewords ∈ xt_T := xt_in (List.mem_of_getElem? (i := 353) (by decide +kernel)) (by decide +kernel)
theorem wx_SR_codewords : Cond.selects "StackedRows" yy_SR_codewords yy_SR_codewords ∈ xt_T := xt_in (List.mem_of_getElem? (i := 354) (by decide +kernel)) (by decide +kernel)
theorem wc_SR_count : Cond.code yy_SR_count cd_SR_count 2 (some .int) ∈ xt_T := xt_in (List.mem_of_getElem? (i := 1056) (by decide +kernel)) (by decide +kernel)
theorem wi_SR_count : Cond.instanceMethod yy_SR_count ∈ xt_T := xt_in (List.mem_of_getElem? (i := 1054) (by decide +kernel)) (by decide +kernel)
theorem wx_SR_count : Cond.selects "StackedRows" yy_SR_count yy_SR_count ∈ xt_T := xt_in (List.mem_of_getElem? (i := 1055) (by decide +kernel)) (by decide +kernel)
theorem wc_SR_end : Cond.code yy_SR_end cd_SR_end 2 none ∈ xt_T := xt_in (List.mem_of_getElem? (i := 674) (by decide +kernel)) (by decide +kernel)
theorem wi_SR_end : Cond.instanceMethod yy_SR_end ∈ xt_T := xt_in (List.mem_of_getElem? (i := 672) (by decide +kernel)) (by decide +kernel)
theorem wx_SR_end : Cond.selects "StackedRows" yy_SR_end yy_SR_end ∈ xt_T := xt_in (List.mem_of_getElem? (i := 673) (by decide +kernel)) (by decide +kernel)
theorem wc_SR_feed : Cond.code yy_SR_feed cd_SR_feed 6 (some .int) ∈ xt_T := xt_in (List.mem_of_getElem? (i := 589) (by decide +kernel)) (by decide +kernel)
theorem wi_SR_feed : Cond.instanceMethod yy_SR_feed ∈ xt_T := xt_in (List.mem_of_getElem? (i := 587) (by decide +kernel)) (by decide +kernel)
theorem wx_SR_feed : Cond.selects "StackedRows" yy_SR_feed yy_SR_feed ∈ xt_T := xt_in (List.mem_of_getElem? (i := 588) (by decide +kernel)) (by decide +kernel)
theorem wc_SR_fillRow : Cond.code yy_SR_fillRow cd_SR_fillRow 3 none ∈ xt_T := xt_in (List.mem_of_getElem? (i := 749) (by decide +kernel)) (by decide +kernel)
theorem wi_SR_fillRow : Cond.instanceMethod yy_SR_fillRow ∈ xt_T := xt_in (List.mem_of_getElem? (i := 748) (by decide +kernel)) (by decide +kernel)
theorem wx_SR_fillRow : Cond.selects "StackedRows" yy_SR_fillRow yy_SR_fillRow ∈ xt_T := xt_in (List.mem_of_getElem? (i := 12) (by decide +kernel)) (by decide +kernel)
theorem wc_SR_make : Cond.code yy_SR_make cd_SR_make 6 (some .int) ∈ xt_T := xt_in (List.mem_of_getElem? (i := 739) (by decide +kernel)) (by decide +kernel)
theorem wi_SR_make : Cond.instanceMethod yy_SR_make ∈ xt_T := xt_in (List.mem_of_getElem? (i := 737) (by decide +kernel)) (by decide +kernel)
theorem wx_SR_make : Cond.selects "StackedRows" yy_SR_make yy_SR_make ∈ xt_T := xt_in (List.mem_of_getElem? (i := 738) (by decide +kernel)) (by decide +kernel)
theorem wc_SR_negative : Cond.code yy_SR_negative cd_SR_negative 1 (some .int) ∈ xt_T := xt_in (List.mem_of_getElem? (i := 760) (by decide +kernel)) (by decide +kernel)
theorem wz_SR_negative : Cond.static yy_SR_negative ∈ xt_T := xt_in (List.mem_of_getElem? (i := 759) (by decide +kernel)) (by decide +kernel)
theorem wc_SR_place : Cond.code yy_SR_place cd_SR_place 3 (some .int) ∈ xt_T := xt_in (List.mem_of_getElem? (i := 806) (by decide +kernel)) (by decide +kernel)
theorem wi_SR_place : Cond.instanceMethod yy_SR_place ∈ xt_T := xt_in (List.mem_of_getElem? (i := 804) (by decide +kernel)) (by decide +kernel)
theorem wx_SR_place : Cond.selects "StackedRows" yy_SR_place yy_SR_place ∈ xt_T := xt_in (List.mem_of_getElem? (i := 805) (by decide +kernel)) (by decide +kernel)
theorem wc_SR_put : Cond.code yy_SR_put cd_SR_put 4 none ∈ xt_T := xt_in (List.mem_of_getElem? (i := 837) (by decide +kernel)) (by decide +kernel)
theorem wi_SR_put : Cond.instanceMethod yy_SR_put ∈ xt_T := xt_in (List.mem_of_getElem? (i := 835) (by decide +kernel)) (by decide +kernel)
theorem wx_SR_put : Cond.selects "StackedRows" yy_SR_put yy_SR_put ∈ xt_T := xt_in (List.mem_of_getElem? (i := 836) (by decide +kernel)) (by decide +kernel)
theorem wc_SR_rowsFor : Cond.code yy_SR_rowsFor cd_SR_rowsFor 3 (some .int) ∈ xt_T := xt_in (List.mem_of_getElem? (i := 745) (by decide +kernel)) (by decide +kernel)
theorem wz_SR_rowsFor : Cond.static yy_SR_rowsFor ∈ xt_T := xt_in (List.mem_of_getElem? (i := 744) (by decide +kernel)) (by decide +kernel)
theorem wc_SR_solve : Cond.code yy_SR_solve cd_SR_solve 2 (some .int) ∈ xt_T := xt_in (List.mem_of_getElem? (i := 845) (by decide +kernel)) (by decide +kernel)
theorem wi_SR_solve : Cond.instanceMethod yy_SR_solve ∈ xt_T := xt_in (List.mem_of_getElem? (i := 843) (by decide +kernel)) (by decide +kernel)
theorem wx_SR_solve : Cond.selects "StackedRows" yy_SR_solve yy_SR_solve ∈ xt_T := xt_in (List.mem_of_getElem? (i := 844) (by decide +kernel)) (by decide +kernel)
theorem wc_SR_solved : Cond.code yy_SR_solved cd_SR_solved 2 (some .int) ∈ xt_T := xt_in (List.mem_of_getElem? (i := 1049) (by decide +kernel)) (by decide +kernel)
theorem wi_SR_solved : Cond.instanceMethod yy_SR_solved ∈ xt_T := xt_in (List.mem_of_getElem? (i := 1047) (by decide +kernel)) (by decide +kernel)
theorem wx_SR_solved : Cond.selects "StackedRows" yy_SR_solved yy_SR_solved ∈ xt_T := xt_in (List.mem_of_getElem? (i := 1048) (by decide +kernel)) (by decide +kernel)
theorem wc_LW_blank : Cond.codeWith yy_LW_blank cd_LW_blank 4 (some .int) [(0, 6, 9, 19)] ∈ xt_T := xt_in (List.mem_of_getElem? (i := 794) (by decide +kernel)) (by decide +kernel)
theorem wn_LW : Cond.initialized "StackedRowsLaw" ∈ xt_T := xt_in (List.mem_of_getElem? (i := 70) (by decide +kernel)) (by decide +kernel)
theorem wz_LW_blank : Cond.static yy_LW_blank ∈ xt_T := xt_in (List.mem_of_getElem? (i := 793) (by decide +kernel)) (by decide +kernel)
theorem wc_LW_byteAt : Cond.codeWith yy_LW_byteAt cd_LW_byteAt 4 (some .int) [(0, 9, 12, 25)] ∈ xt_T := xt_in (List.mem_of_getElem? (i := 696) (by decide +kernel)) (by decide +kernel)
theorem wz_LW_byteAt : Cond.static yy_LW_byteAt ∈ xt_T := xt_in (List.mem_of_getElem? (i := 695) (by decide +kernel)) (by decide +kernel)
theorem wc_LW_codeword : Cond.codeWith yy_LW_codeword cd_LW_codeword 4 (some .int) [(0, 9, 12, 25)] ∈ xt_T := xt_in (List.mem_of_getElem? (i := 720) (by decide +kernel)) (by decide +kernel)
theorem wz_LW_codeword : Cond.static yy_LW_codeword ∈ xt_T := xt_in (List.mem_of_getElem? (i := 719) (by decide +kernel)) (by decide +kernel)
theorem wc_LW_count : Cond.codeWith yy_LW_count cd_LW_count 4 (some .int) [(0, 9, 12, 19)] ∈ xt_T := xt_in (List.mem_of_getElem? (i := 1052) (by decide +kernel)) (by decide +kernel)
theorem wz_LW_count : Cond.static yy_LW_count ∈ xt_T := xt_in (List.mem_of_getElem? (i := 1051) (by decide +kernel)) (by decide +kernel)
theorem wc_LW_end : Cond.codeWith yy_LW_end cd_LW_end 3 (some .int) [(0, 5, 8, 19)] ∈ xt_T := xt_in (List.mem_of_getElem? (i := 669) (by decide +kernel)) (by decide +kernel)
theorem wz_LW_end : Cond.static yy_LW_end ∈ xt_T := xt_in (List.mem_of_getElem? (i := 668) (by decide +kernel)) (by decide +kernel)
theorem wc_LW_feed : Cond.codeWith yy_LW_feed cd_LW_feed 8 (some .int) [(0, 16, 19, 13)] ∈ xt_T := xt_in (List.mem_of_getElem? (i := 584) (by decide +kernel)) (by decide +kernel)
theorem wz_LW_feed : Cond.static yy_LW_feed ∈ xt_T := xt_in (List.mem_of_getElem? (i := 583) (by decide +kernel)) (by decide +kernel)
theorem wc_LW_make : Cond.codeWith yy_LW_make cd_LW_make 5 (some .int) [(0, 10, 13, 19), (0, 10, 17, 13)] ∈ xt_T := xt_in (List.mem_of_getElem? (i := 735) (by decide +kernel)) (by decide +kernel)
theorem wz_LW_make : Cond.static yy_LW_make ∈ xt_T := xt_in (List.mem_of_getElem? (i := 734) (by decide +kernel)) (by decide +kernel)
theorem wc_LW_place : Cond.codeWith yy_LW_place cd_LW_place 5 (some .int) [(0, 10, 13, 41), (0, 10, 17, 25)] ∈ xt_T := xt_in (List.mem_of_getElem? (i := 801) (by decide +kernel)) (by decide +kernel)
theorem wz_LW_place : Cond.static yy_LW_place ∈ xt_T := xt_in (List.mem_of_getElem? (i := 800) (by decide +kernel)) (by decide +kernel)
theorem wc_LW_put : Cond.codeWith yy_LW_put cd_LW_put 5 (some .int) [(0, 7, 10, 41), (0, 7, 14, 25), (0, 7, 18, 19)] ∈ xt_T := xt_in (List.mem_of_getElem? (i := 833) (by decide +kernel)) (by decide +kernel)
theorem wz_LW_put : Cond.static yy_LW_put ∈ xt_T := xt_in (List.mem_of_getElem? (i := 832) (by decide +kernel)) (by decide +kernel)
theorem wc_LW_solve : Cond.codeWith yy_LW_solve cd_LW_solve 3 (some .int) [(0, 8, 11, 41), (0, 8, 14, 13)] ∈ xt_T := xt_in (List.mem_of_getElem? (i := 841) (by decide +kernel)) (by decide +kernel)
theorem wz_LW_solve : Cond.static yy_LW_solve ∈ xt_T := xt_in (List.mem_of_getElem? (i := 840) (by decide +kernel)) (by decide +kernel)
theorem wc_LW_solved : Cond.codeWith yy_LW_solved cd_LW_solved 4 (some .int) [(0, 9, 12, 25)] ∈ xt_T := xt_in (List.mem_of_getElem? (i := 1045) (by decide +kernel)) (by decide +kernel)
theorem wz_LW_solved : Cond.static yy_LW_solved ∈ xt_T := xt_in (List.mem_of_getElem? (i := 1044) (by decide +kernel)) (by decide +kernel)
theorem wc_MO_init : Cond.code yy_MO_init cd_MO_init 3 none ∈ xt_T := xt_in (List.mem_of_getElem? (i := 1063) (by decide +kernel)) (by decide +kernel)
theorem wn_MO : Cond.initialized "StackedRowsModel" ∈ xt_T := xt_in (List.mem_of_getElem? (i := 85) (by decide +kernel)) (by decide +kernel)
theorem wi_MO_init : Cond.instanceMethod yy_MO_init ∈ xt_T := xt_in (List.mem_of_getElem? (i := 1062) (by decide +kernel)) (by decide +kernel)
theorem wc_MO_at : Cond.code yy_MO_at cd_MO_at 3 (some .int) ∈ xt_T := xt_in (List.mem_of_getElem? (i := 1243) (by decide +kernel)) (by decide +kernel)
theorem wi_MO_at : Cond.instanceMethod yy_MO_at ∈ xt_T := xt_in (List.mem_of_getElem? (i := 1242) (by decide +kernel)) (by decide +kernel)
theorem wx_MO_at : Cond.selects "StackedRowsModel" yy_MO_at yy_MO_at ∈ xt_T := xt_in (List.mem_of_getElem? (i := 53) (by decide +kernel)) (by decide +kernel)
theorem wc_MO_blank : Cond.code yy_MO_blank cd_MO_blank 4 none ∈ xt_T := xt_in (List.mem_of_getElem? (i := 1251) (by decide +kernel)) (by decide +kernel)
theorem wi_MO_blank : Cond.instanceMethod yy_MO_blank ∈ xt_T := xt_in (List.mem_of_getElem? (i := 1249) (by decide +kernel)) (by decide +kernel)
theorem wx_MO_blank : Cond.selects "StackedRowsModel" yy_MO_blank yy_MO_blank ∈ xt_T := xt_in (List.mem_of_getElem? (i := 1250) (by decide +kernel)) (by decide +kernel)
theorem wc_MO_byteAt : Cond.code yy_MO_byteAt cd_MO_byteAt 2 (some .int) ∈ xt_T := xt_in (List.mem_of_getElem? (i := 1358) (by decide +kernel)) (by decide +kernel)
theorem wi_MO_byteAt : Cond.instanceMethod yy_MO_byteAt ∈ xt_T := xt_in (List.mem_of_getElem? (i := 1356) (by decide +kernel)) (by decide +kernel)
theorem wx_MO_byteAt : Cond.selects "StackedRowsModel" yy_MO_byteAt yy_MO_byteAt ∈ xt_T := xt_in (List.mem_of_getElem? (i := 1357) (by decide +kernel)) (by decide +kernel)
theorem wc_MO_codeword : Cond.code yy_MO_codeword cd_MO_codeword 2 (some .int) ∈ xt_T := xt_in (List.mem_of_getElem? (i := 1227) (by decide +kernel)) (by decide +kernel)
theorem wi_MO_codeword : Cond.instanceMethod yy_MO_codeword ∈ xt_T := xt_in (List.mem_of_getElem? (i := 1225) (by decide +kernel)) (by decide +kernel)
theorem wx_MO_codeword : Cond.selects "StackedRowsModel" yy_MO_codeword yy_MO_codeword ∈ xt_T := xt_in (List.mem_of_getElem? (i := 1226) (by decide +kernel)) (by decide +kernel)
theorem wc_MO_codewords : Cond.code yy_MO_codewords cd_MO_codewords 1 (some .int) ∈ xt_T := xt_in (List.mem_of_getElem? (i := 1170) (by decide +kernel)) (by decide +kernel)
theorem wi_MO_codewords : Cond.instanceMethod yy_MO_codewords ∈ xt_T := xt_in (List.mem_of_getElem? (i := 1168) (by decide +kernel)) (by decide +kernel)
theorem wx_MO_codewords : Cond.selects "StackedRowsModel" yy_MO_codewords yy_MO_codewords ∈ xt_T := xt_in (List.mem_of_getElem? (i := 1169) (by decide +kernel)) (by decide +kernel)
theorem wc_MO_count : Cond.code yy_MO_count cd_MO_count 2 (some .int) ∈ xt_T := xt_in (List.mem_of_getElem? (i := 1362) (by decide +kernel)) (by decide +kernel)
theorem wi_MO_count : Cond.instanceMethod yy_MO_count ∈ xt_T := xt_in (List.mem_of_getElem? (i := 1360) (by decide +kernel)) (by decide +kernel)
theorem wx_MO_count : Cond.selects "StackedRowsModel" yy_MO_count yy_MO_count ∈ xt_T := xt_in (List.mem_of_getElem? (i := 1361) (by decide +kernel)) (by decide +kernel)
theorem wc_MO_end : Cond.code yy_MO_end cd_MO_end 2 none ∈ xt_T := xt_in (List.mem_of_getElem? (i := 1354) (by decide +kernel)) (by decide +kernel)
theorem wi_MO_end : Cond.instanceMethod yy_MO_end ∈ xt_T := xt_in (List.mem_of_getElem? (i := 1352) (by decide +kernel)) (by decide +kernel)
theorem wx_MO_end : Cond.selects "StackedRowsModel" yy_MO_end yy_MO_end ∈ xt_T := xt_in (List.mem_of_getElem? (i := 1353) (by decide +kernel)) (by decide +kernel)
theorem wc_MO_feed : Cond.code yy_MO_feed cd_MO_feed 8 (some .int) ∈ xt_T := xt_in (List.mem_of_getElem? (i := 1350) (by decide +kernel)) (by decide +kernel)
theorem wi_MO_feed : Cond.instanceMethod yy_MO_feed ∈ xt_T := xt_in (List.mem_of_getElem? (i := 1348) (by decide +kernel)) (by decide +kernel)
theorem wx_MO_feed : Cond.selects "StackedRowsModel" yy_MO_feed yy_MO_feed ∈ xt_T := xt_in (List.mem_of_getElem? (i := 1349) (by decide +kernel)) (by decide +kernel)
theorem wc_MO_indicator : Cond.code yy_MO_indicator cd_MO_indicator 6 (some .int) ∈ xt_T := xt_in (List.mem_of_getElem? (i := 1247) (by decide +kernel)) (by decide +kernel)
theorem wi_MO_indicator : Cond.instanceMethod yy_MO_indicator ∈ xt_T := xt_in (List.mem_of_getElem? (i := 1246) (by decide +kernel)) (by decide +kernel)
theorem wx_MO_indicator : Cond.selects "StackedRowsModel" yy_MO_indicator yy_MO_indicator ∈ xt_T := xt_in (List.mem_of_getElem? (i := 54) (by decide +kernel)) (by decide +kernel)
theorem wc_MO_make : Cond.code yy_MO_make cd_MO_make 7 (some .int) ∈ xt_T := xt_in (List.mem_of_getElem? (i := 1231) (by decide +kernel)) (by decide +kernel)
theorem wi_MO_make : Cond.instanceMethod yy_MO_make ∈ xt_T := xt_in (List.mem_of_getElem? (i := 1229) (by decide +kernel)) (by decide +kernel)
theorem wx_MO_make : Cond.selects "StackedRowsModel" yy_MO_make yy_MO_make ∈ xt_T := xt_in (List.mem_of_getElem? (i := 1230) (by decide +kernel)) (by decide +kernel)
theorem wc_MO_makeChecks : Cond.code yy_MO_makeChecks cd_MO_makeChecks 6 none ∈ xt_T := xt_in (List.mem_of_getElem? (i := 1235) (by decide +kernel)) (by decide +kernel)
theorem wi_MO_makeChecks : Cond.instanceMethod yy_MO_makeChecks ∈ xt_T := xt_in (List.mem_of_getElem? (i := 1234) (by decide +kernel)) (by decide +kernel)
theorem wx_MO_makeChecks : Cond.selects "StackedRowsModel" yy_MO_makeChecks yy_MO_makeChecks ∈ xt_T := xt_in (List.mem_of_getElem? (i := 51) (by decide +kernel)) (by decide +kernel)
theorem wc_MO_place : Cond.code yy_MO_place cd_MO_place 3 (some .int) ∈ xt_T := xt_in (List.mem_of_getElem? (i := 1255) (by decide +kernel)) (by decide +kernel)
theorem wi_MO_place : Cond.instanceMethod yy_MO_place ∈ xt_T := xt_in (List.mem_of_getElem? (i := 1253) (by decide +kernel)) (by decide +kernel)
theorem wx_MO_place : Cond.selects "StackedRowsModel" yy_MO_place yy_MO_place ∈ xt_T := xt_in (List.mem_of_getElem? (i := 1254) (by decide +kernel)) (by decide +kernel)
theorem wc_MO_placeOf : Cond.code yy_MO_placeOf cd_MO_placeOf 2 (some .int) ∈ xt_T := xt_in (List.mem_of_getElem? (i := 1239) (by decide +kernel)) (by decide +kernel)
theorem wi_MO_placeOf : Cond.instanceMethod yy_MO_placeOf ∈ xt_T := xt_in (List.mem_of_getElem? (i := 1238) (by decide +kernel)) (by decide +kernel)
theorem wx_MO_placeOf : Cond.selects "StackedRowsModel" yy_MO_placeOf yy_MO_placeOf ∈ xt_T := xt_in (List.mem_of_getElem? (i := 52) (by decide +kernel)) (by decide +kernel)
theorem wc_MO_put : Cond.code yy_MO_put cd_MO_put 4 none ∈ xt_T := xt_in (List.mem_of_getElem? (i := 1263) (by decide +kernel)) (by decide +kernel)
theorem wi_MO_put : Cond.instanceMethod yy_MO_put ∈ xt_T := xt_in (List.mem_of_getElem? (i := 1261) (by decide +kernel)) (by decide +kernel)
theorem wx_MO_put : Cond.selects "StackedRowsModel" yy_MO_put yy_MO_put ∈ xt_T := xt_in (List.mem_of_getElem? (i := 1262) (by decide +kernel)) (by decide +kernel)
theorem wc_MO_solve : Cond.code yy_MO_solve cd_MO_solve 7 (some .int) ∈ xt_T := xt_in (List.mem_of_getElem? (i := 1267) (by decide +kernel)) (by decide +kernel)
theorem wi_MO_solve : Cond.instanceMethod yy_MO_solve ∈ xt_T := xt_in (List.mem_of_getElem? (i := 1265) (by decide +kernel)) (by decide +kernel)
theorem wx_MO_solve : Cond.selects "StackedRowsModel" yy_MO_solve yy_MO_solve ∈ xt_T := xt_in (List.mem_of_getElem? (i := 1266) (by decide +kernel)) (by decide +kernel)
theorem wc_MO_solved : Cond.code yy_MO_solved cd_MO_solved 2 (some .int) ∈ xt_T := xt_in (List.mem_of_getElem? (i := 1346) (by decide +kernel)) (by decide +kernel)
theorem wi_MO_solved : Cond.instanceMethod yy_MO_solved ∈ xt_T := xt_in (List.mem_of_getElem? (i := 1344) (by decide +kernel)) (by decide +kernel)
theorem wx_MO_solved : Cond.selects "StackedRowsModel" yy_MO_solved yy_MO_solved ∈ xt_T := xt_in (List.mem_of_getElem? (i := 1345) (by decide +kernel)) (by decide +kernel)
theorem wc_MO_thrown : Cond.code yy_MO_thrown cd_MO_thrown 1 (some .int) ∈ xt_T := xt_in (List.mem_of_getElem? (i := 1166) (by decide +kernel)) (by decide +kernel)
theorem wi_MO_thrown : Cond.instanceMethod yy_MO_thrown ∈ xt_T := xt_in (List.mem_of_getElem? (i := 1164) (by decide +kernel)) (by decide +kernel)
theorem wx_MO_thrown : Cond.selects "StackedRowsModel" yy_MO_thrown yy_MO_thrown ∈ xt_T := xt_in (List.mem_of_getElem? (i := 1165) (by decide +kernel)) (by decide +kernel)
theorem wc_MO_writeAll : Cond.code yy_MO_writeAll cd_MO_writeAll 6 none ∈ xt_T := xt_in (List.mem_of_getElem? (i := 1174) (by decide +kernel)) (by decide +kernel)
theorem wi_MO_writeAll : Cond.instanceMethod yy_MO_writeAll ∈ xt_T := xt_in (List.mem_of_getElem? (i := 1173) (by decide +kernel)) (by decide +kernel)
theorem wx_MO_writeAll : Cond.selects "StackedRowsModel" yy_MO_writeAll yy_MO_writeAll ∈ xt_T := xt_in (List.mem_of_getElem? (i := 40) (by decide +kernel)) (by decide +kernel)
theorem wc_AR_fill : Cond.code yy_AR_fill cd_AR_fill 4 none ∈ xt_T := xt_in (List.mem_of_getElem? (i := 413) (by decide +kernel)) (by decide +kernel)
theorem wn_AR : Cond.initialized "java/util/Arrays" ∈ xt_T := xt_in (List.mem_of_getElem? (i := 92) (by decide +kernel)) (by decide +kernel)
theorem wz_AR_fill : Cond.static yy_AR_fill ∈ xt_T := xt_in (List.mem_of_getElem? (i := 412) (by decide +kernel)) (by decide +kernel)
theorem ml_CK_15 : Cond.methodLink "StackedRows$Checks" 15 yy_CK_multiplyFactors ∈ xt_T := xt_in (List.mem_of_getElem? (i := 754) (by decide +kernel)) (by decide +kernel)
theorem ml_CK_19 : Cond.methodLink "StackedRows$Checks" 19 yy_CK_divide ∈ xt_T := xt_in (List.mem_of_getElem? (i := 761) (by decide +kernel)) (by decide +kernel)
theorem ml_RD_21 : Cond.methodLink "StackedRows$Reader" 21 yy_BN_init ∈ xt_T := xt_in (List.mem_of_getElem? (i := 275) (by decide +kernel)) (by decide +kernel)
theorem ml_SV_23 : Cond.methodLink "StackedRows$Solver" 23 yy_MD_init ∈ xt_T := xt_in (List.mem_of_getElem? (i := 234) (by decide +kernel)) (by decide +kernel)
theorem ml_SV_32 : Cond.methodLink "StackedRows$Solver" 32 yy_TP_init ∈ xt_T := xt_in (List.mem_of_getElem? (i := 267) (by decide +kernel)) (by decide +kernel)
theorem ml_SV_39 : Cond.methodLink "StackedRows$Solver" 39 yy_RD_init ∈ xt_T := xt_in (List.mem_of_getElem? (i := 270) (by decide +kernel)) (by decide +kernel)
theorem ml_SY_22 : Cond.methodLink "StackedRows$Symbol" 22 yy_AR_fill ∈ xt_T := xt_in (List.mem_of_getElem? (i := 769) (by decide +kernel)) (by decide +kernel)
theorem ml_SY_28 : Cond.methodLink "StackedRows$Symbol" 28 yy_SY_has ∈ xt_T := xt_in (List.mem_of_getElem? (i := 785) (by decide +kernel)) (by decide +kernel)
theorem ml_SY_32 : Cond.methodLink "StackedRows$Symbol" 32 yy_SY_leftKind ∈ xt_T := xt_in (List.mem_of_getElem? (i := 774) (by decide +kernel)) (by decide +kernel)
theorem ml_SY_36 : Cond.methodLink "StackedRows$Symbol" 36 yy_SY_indicated ∈ xt_T := xt_in (List.mem_of_getElem? (i := 777) (by decide +kernel)) (by decide +kernel)
theorem ml_SY_40 : Cond.methodLink "StackedRows$Symbol" 40 yy_SY_set ∈ xt_T := xt_in (List.mem_of_getElem? (i := 781) (by decide +kernel)) (by decide +kernel)
theorem ml_SY_44 : Cond.methodLink "StackedRows$Symbol" 44 yy_SY_rightKind ∈ xt_T := xt_in (List.mem_of_getElem? (i := 789) (by decide +kernel)) (by decide +kernel)
theorem ml_TP_19 : Cond.methodLink "StackedRows$Tape" 19 yy_TP_add ∈ xt_T := xt_in (List.mem_of_getElem? (i := 659) (by decide +kernel)) (by decide +kernel)
theorem ml_WR_17 : Cond.methodLink "StackedRows$Writer" 17 yy_CW_init ∈ xt_T := xt_in (List.mem_of_getElem? (i := 130) (by decide +kernel)) (by decide +kernel)
theorem ml_WR_24 : Cond.methodLink "StackedRows$Writer" 24 yy_TW_init ∈ xt_T := xt_in (List.mem_of_getElem? (i := 143) (by decide +kernel)) (by decide +kernel)
theorem ml_WR_33 : Cond.methodLink "StackedRows$Writer" 33 yy_BN_init ∈ xt_T := xt_in (List.mem_of_getElem? (i := 161) (by decide +kernel)) (by decide +kernel)
theorem ml_WR_55 : Cond.methodLink "StackedRows$Writer" 55 yy_CW_size ∈ xt_T := xt_in (List.mem_of_getElem? (i := 578) (by decide +kernel)) (by decide +kernel)
theorem ml_WR_63 : Cond.methodLink "StackedRows$Writer" 63 yy_TP_size ∈ xt_T := xt_in (List.mem_of_getElem? (i := 360) (by decide +kernel)) (by decide +kernel)
theorem ml_WR_66 : Cond.methodLink "StackedRows$Writer" 66 yy_WR_measure ∈ xt_T := xt_in (List.mem_of_getElem? (i := 364) (by decide +kernel)) (by decide +kernel)
theorem ml_WR_70 : Cond.methodLink "StackedRows$Writer" 70 yy_TW_beginWithCapitals ∈ xt_T := xt_in (List.mem_of_getElem? (i := 380) (by decide +kernel)) (by decide +kernel)
theorem ml_WR_73 : Cond.methodLink "StackedRows$Writer" 73 yy_CW_clear ∈ xt_T := xt_in (List.mem_of_getElem? (i := 384) (by decide +kernel)) (by decide +kernel)
theorem ml_SR_100 : Cond.methodLink "StackedRows" 100 yy_SY_begin ∈ xt_T := xt_in (List.mem_of_getElem? (i := 765) (by decide +kernel)) (by decide +kernel)
theorem ml_SR_104 : Cond.methodLink "StackedRows" 104 yy_SY_fill ∈ xt_T := xt_in (List.mem_of_getElem? (i := 770) (by decide +kernel)) (by decide +kernel)
theorem ml_SR_108 : Cond.methodLink "StackedRows" 108 yy_SY_isThere ∈ xt_T := xt_in (List.mem_of_getElem? (i := 807) (by decide +kernel)) (by decide +kernel)
theorem ml_SR_11 : Cond.methodLink "StackedRows" 11 yy_TP_init ∈ xt_T := xt_in (List.mem_of_getElem? (i := 110) (by decide +kernel)) (by decide +kernel)
theorem ml_SR_145 : Cond.methodLink "StackedRows" 145 yy_SY_rows ∈ xt_T := xt_in (List.mem_of_getElem? (i := 1057) (by decide +kernel)) (by decide +kernel)
theorem ml_SR_148 : Cond.methodLink "StackedRows" 148 yy_SY_columns ∈ xt_T := xt_in (List.mem_of_getElem? (i := 1058) (by decide +kernel)) (by decide +kernel)
theorem ml_SR_18 : Cond.methodLink "StackedRows" 18 yy_WR_init ∈ xt_T := xt_in (List.mem_of_getElem? (i := 124) (by decide +kernel)) (by decide +kernel)
theorem ml_SR_27 : Cond.methodLink "StackedRows" 27 yy_CK_init ∈ xt_T := xt_in (List.mem_of_getElem? (i := 202) (by decide +kernel)) (by decide +kernel)
theorem ml_SR_34 : Cond.methodLink "StackedRows" 34 yy_SY_init ∈ xt_T := xt_in (List.mem_of_getElem? (i := 212) (by decide +kernel)) (by decide +kernel)
theorem ml_SR_45 : Cond.methodLink "StackedRows" 45 yy_SV_init ∈ xt_T := xt_in (List.mem_of_getElem? (i := 228) (by decide +kernel)) (by decide +kernel)
theorem ml_SR_55 : Cond.methodLink "StackedRows" 55 yy_TP_size ∈ xt_T := xt_in (List.mem_of_getElem? (i := 590) (by decide +kernel)) (by decide +kernel)
theorem ml_SR_62 : Cond.methodLink "StackedRows" 62 yy_TP_addFour ∈ xt_T := xt_in (List.mem_of_getElem? (i := 655) (by decide +kernel)) (by decide +kernel)
theorem ml_SR_66 : Cond.methodLink "StackedRows" 66 yy_WR_forget ∈ xt_T := xt_in (List.mem_of_getElem? (i := 663) (by decide +kernel)) (by decide +kernel)
theorem ml_SR_72 : Cond.methodLink "StackedRows" 72 yy_TP_cut ∈ xt_T := xt_in (List.mem_of_getElem? (i := 690) (by decide +kernel)) (by decide +kernel)
theorem ml_SR_82 : Cond.methodLink "StackedRows" 82 yy_WR_write ∈ xt_T := xt_in (List.mem_of_getElem? (i := 356) (by decide +kernel)) (by decide +kernel)
theorem ml_SR_85 : Cond.methodLink "StackedRows" 85 yy_WR_size ∈ xt_T := xt_in (List.mem_of_getElem? (i := 574) (by decide +kernel)) (by decide +kernel)
theorem ml_SR_87 : Cond.methodLink "StackedRows" 87 yy_SR_checksOf ∈ xt_T := xt_in (List.mem_of_getElem? (i := 740) (by decide +kernel)) (by decide +kernel)
theorem ml_SR_90 : Cond.methodLink "StackedRows" 90 yy_SR_rowsFor ∈ xt_T := xt_in (List.mem_of_getElem? (i := 743) (by decide +kernel)) (by decide +kernel)
theorem ml_SR_94 : Cond.methodLink "StackedRows" 94 yy_SR_fillRow ∈ xt_T := xt_in (List.mem_of_getElem? (i := 746) (by decide +kernel)) (by decide +kernel)
theorem ml_SR_97 : Cond.methodLink "StackedRows" 97 yy_CK_write ∈ xt_T := xt_in (List.mem_of_getElem? (i := 750) (by decide +kernel)) (by decide +kernel)
theorem ml_LW_100 : Cond.methodLink "StackedRowsLaw" 100 yy_LW_solve ∈ xt_T := xt_in (List.mem_of_getElem? (i := 839) (by decide +kernel)) (by decide +kernel)
theorem ml_LW_103 : Cond.methodLink "StackedRowsLaw" 103 yy_MO_solve ∈ xt_T := xt_in (List.mem_of_getElem? (i := 1264) (by decide +kernel)) (by decide +kernel)
theorem ml_LW_104 : Cond.methodLink "StackedRowsLaw" 104 yy_LW_solved ∈ xt_T := xt_in (List.mem_of_getElem? (i := 1043) (by decide +kernel)) (by decide +kernel)
theorem ml_LW_106 : Cond.methodLink "StackedRowsLaw" 106 yy_MO_solved ∈ xt_T := xt_in (List.mem_of_getElem? (i := 1343) (by decide +kernel)) (by decide +kernel)
theorem ml_LW_107 : Cond.methodLink "StackedRowsLaw" 107 yy_LW_count ∈ xt_T := xt_in (List.mem_of_getElem? (i := 1050) (by decide +kernel)) (by decide +kernel)
theorem ml_LW_109 : Cond.methodLink "StackedRowsLaw" 109 yy_MO_count ∈ xt_T := xt_in (List.mem_of_getElem? (i := 1359) (by decide +kernel)) (by decide +kernel)
theorem ml_LW_15 : Cond.methodLink "StackedRowsLaw" 15 yy_SR_end ∈ xt_T := xt_in (List.mem_of_getElem? (i := 671) (by decide +kernel)) (by decide +kernel)
theorem ml_LW_21 : Cond.methodLink "StackedRowsLaw" 21 yy_SR_byteAt ∈ xt_T := xt_in (List.mem_of_getElem? (i := 698) (by decide +kernel)) (by decide +kernel)
theorem ml_LW_27 : Cond.methodLink "StackedRowsLaw" 27 yy_SR_codeword ∈ xt_T := xt_in (List.mem_of_getElem? (i := 721) (by decide +kernel)) (by decide +kernel)
theorem ml_LW_30 : Cond.methodLink "StackedRowsLaw" 30 yy_SR_make ∈ xt_T := xt_in (List.mem_of_getElem? (i := 736) (by decide +kernel)) (by decide +kernel)
theorem ml_LW_34 : Cond.methodLink "StackedRowsLaw" 34 yy_SR_blank ∈ xt_T := xt_in (List.mem_of_getElem? (i := 795) (by decide +kernel)) (by decide +kernel)
theorem ml_LW_38 : Cond.methodLink "StackedRowsLaw" 38 yy_SR_place ∈ xt_T := xt_in (List.mem_of_getElem? (i := 803) (by decide +kernel)) (by decide +kernel)
theorem ml_LW_43 : Cond.methodLink "StackedRowsLaw" 43 yy_SR_put ∈ xt_T := xt_in (List.mem_of_getElem? (i := 834) (by decide +kernel)) (by decide +kernel)
theorem ml_LW_47 : Cond.methodLink "StackedRowsLaw" 47 yy_SR_solve ∈ xt_T := xt_in (List.mem_of_getElem? (i := 842) (by decide +kernel)) (by decide +kernel)
theorem ml_LW_51 : Cond.methodLink "StackedRowsLaw" 51 yy_SR_solved ∈ xt_T := xt_in (List.mem_of_getElem? (i := 1046) (by decide +kernel)) (by decide +kernel)
theorem ml_LW_54 : Cond.methodLink "StackedRowsLaw" 54 yy_SR_count ∈ xt_T := xt_in (List.mem_of_getElem? (i := 1053) (by decide +kernel)) (by decide +kernel)
theorem ml_LW_57 : Cond.methodLink "StackedRowsLaw" 57 yy_SR_init ∈ xt_T := xt_in (List.mem_of_getElem? (i := 102) (by decide +kernel)) (by decide +kernel)
theorem ml_LW_60 : Cond.methodLink "StackedRowsLaw" 60 yy_MO_init ∈ xt_T := xt_in (List.mem_of_getElem? (i := 1061) (by decide +kernel)) (by decide +kernel)
theorem ml_LW_61 : Cond.methodLink "StackedRowsLaw" 61 yy_LW_feed ∈ xt_T := xt_in (List.mem_of_getElem? (i := 582) (by decide +kernel)) (by decide +kernel)
theorem ml_LW_66 : Cond.methodLink "StackedRowsLaw" 66 yy_MO_feed ∈ xt_T := xt_in (List.mem_of_getElem? (i := 1347) (by decide +kernel)) (by decide +kernel)
theorem ml_LW_67 : Cond.methodLink "StackedRowsLaw" 67 yy_MO_thrown ∈ xt_T := xt_in (List.mem_of_getElem? (i := 1163) (by decide +kernel)) (by decide +kernel)
theorem ml_LW_7 : Cond.methodLink "StackedRowsLaw" 7 yy_SR_feed ∈ xt_T := xt_in (List.mem_of_getElem? (i := 586) (by decide +kernel)) (by decide +kernel)
theorem ml_LW_70 : Cond.methodLink "StackedRowsLaw" 70 yy_LW_end ∈ xt_T := xt_in (List.mem_of_getElem? (i := 667) (by decide +kernel)) (by decide +kernel)
theorem ml_LW_73 : Cond.methodLink "StackedRowsLaw" 73 yy_MO_end ∈ xt_T := xt_in (List.mem_of_getElem? (i := 1351) (by decide +kernel)) (by decide +kernel)
theorem ml_LW_74 : Cond.methodLink "StackedRowsLaw" 74 yy_LW_byteAt ∈ xt_T := xt_in (List.mem_of_getElem? (i := 694) (by decide +kernel)) (by decide +kernel)
theorem ml_LW_77 : Cond.methodLink "StackedRowsLaw" 77 yy_MO_byteAt ∈ xt_T := xt_in (List.mem_of_getElem? (i := 1355) (by decide +kernel)) (by decide +kernel)
theorem ml_LW_78 : Cond.methodLink "StackedRowsLaw" 78 yy_SR_codewords ∈ xt_T := xt_in (List.mem_of_getElem? (i := 352) (by decide +kernel)) (by decide +kernel)
theorem ml_LW_81 : Cond.methodLink "StackedRowsLaw" 81 yy_MO_codewords ∈ xt_T := xt_in (List.mem_of_getElem? (i := 1167) (by decide +kernel)) (by decide +kernel)
theorem ml_LW_82 : Cond.methodLink "StackedRowsLaw" 82 yy_LW_codeword ∈ xt_T := xt_in (List.mem_of_getElem? (i := 718) (by decide +kernel)) (by decide +kernel)
theorem ml_LW_84 : Cond.methodLink "StackedRowsLaw" 84 yy_MO_codeword ∈ xt_T := xt_in (List.mem_of_getElem? (i := 1224) (by decide +kernel)) (by decide +kernel)
theorem ml_LW_85 : Cond.methodLink "StackedRowsLaw" 85 yy_LW_make ∈ xt_T := xt_in (List.mem_of_getElem? (i := 733) (by decide +kernel)) (by decide +kernel)
theorem ml_LW_88 : Cond.methodLink "StackedRowsLaw" 88 yy_MO_make ∈ xt_T := xt_in (List.mem_of_getElem? (i := 1228) (by decide +kernel)) (by decide +kernel)
theorem ml_LW_89 : Cond.methodLink "StackedRowsLaw" 89 yy_LW_blank ∈ xt_T := xt_in (List.mem_of_getElem? (i := 792) (by decide +kernel)) (by decide +kernel)
theorem ml_LW_92 : Cond.methodLink "StackedRowsLaw" 92 yy_MO_blank ∈ xt_T := xt_in (List.mem_of_getElem? (i := 1248) (by decide +kernel)) (by decide +kernel)
theorem ml_LW_93 : Cond.methodLink "StackedRowsLaw" 93 yy_LW_place ∈ xt_T := xt_in (List.mem_of_getElem? (i := 799) (by decide +kernel)) (by decide +kernel)
theorem ml_LW_95 : Cond.methodLink "StackedRowsLaw" 95 yy_MO_place ∈ xt_T := xt_in (List.mem_of_getElem? (i := 1252) (by decide +kernel)) (by decide +kernel)
theorem ml_LW_96 : Cond.methodLink "StackedRowsLaw" 96 yy_LW_put ∈ xt_T := xt_in (List.mem_of_getElem? (i := 831) (by decide +kernel)) (by decide +kernel)
theorem ml_LW_99 : Cond.methodLink "StackedRowsLaw" 99 yy_MO_put ∈ xt_T := xt_in (List.mem_of_getElem? (i := 1260) (by decide +kernel)) (by decide +kernel)
theorem ml_MO_131 : Cond.methodLink "StackedRowsModel" 131 yy_MO_writeAll ∈ xt_T := xt_in (List.mem_of_getElem? (i := 1171) (by decide +kernel)) (by decide +kernel)
theorem ml_MO_140 : Cond.methodLink "StackedRowsModel" 140 yy_MO_at ∈ xt_T := xt_in (List.mem_of_getElem? (i := 1240) (by decide +kernel)) (by decide +kernel)
theorem ml_MO_143 : Cond.methodLink "StackedRowsModel" 143 yy_MO_makeChecks ∈ xt_T := xt_in (List.mem_of_getElem? (i := 1232) (by decide +kernel)) (by decide +kernel)
theorem ml_MO_146 : Cond.methodLink "StackedRowsModel" 146 yy_MO_placeOf ∈ xt_T := xt_in (List.mem_of_getElem? (i := 1236) (by decide +kernel)) (by decide +kernel)
theorem ml_MO_149 : Cond.methodLink "StackedRowsModel" 149 yy_MO_indicator ∈ xt_T := xt_in (List.mem_of_getElem? (i := 1244) (by decide +kernel)) (by decide +kernel)
theorem wa_boolean : Cond.arrayClass .boolean ∈ xt_T := xt_in (List.mem_of_getElem? (i := 1162) (by decide +kernel)) (by decide +kernel)
theorem wa_int : Cond.arrayClass .int ∈ xt_T := xt_in (List.mem_of_getElem? (i := 121) (by decide +kernel)) (by decide +kernel)
theorem wa_long : Cond.arrayClass .long ∈ xt_T := xt_in (List.mem_of_getElem? (i := 1363) (by decide +kernel)) (by decide +kernel)
theorem ws_un : Cond.laysStatic "java/lang/Throwable" "UNASSIGNED_STACK" "[Ljava/lang/StackTraceElement;" ∈ xt_T := xt_in (List.mem_of_getElem? (i := 618) (by decide +kernel)) (by decide +kernel)
theorem ws_su : Cond.laysStatic "java/lang/Throwable" "SUPPRESSED_SENTINEL" "Ljava/util/List;" ∈ xt_T := xt_in (List.mem_of_getElem? (i := 620) (by decide +kernel)) (by decide +kernel)
theorem ws_ca : Cond.laysStatic "StackedRows$Letters" "CAPITALS" "LStackedRows$Letters;" ∈ xt_T := xt_in (List.mem_of_getElem? (i := 148) (by decide +kernel)) (by decide +kernel)
theorem wn_TH : Cond.initialized "java/lang/Throwable" ∈ xt_T := xt_in (List.mem_of_getElem? (i := 86) (by decide +kernel)) (by decide +kernel)
theorem wn_LE : Cond.initialized "StackedRows$Letters" ∈ xt_T := xt_in (List.mem_of_getElem? (i := 77) (by decide +kernel)) (by decide +kernel)
theorem ws_ng : xn_neg ∈ lw_tbl := List.mem_of_getElem? (i := 758) (by decide +kernel)
theorem wk_SR : Cond.instantiable "StackedRows" 7 ∈ xt_T := xt_in (List.mem_of_getElem? (i := 101) (by decide +kernel)) (by decide +kernel)
theorem wk_BN : Cond.instantiable "StackedRows$BigNumber" 2 ∈ xt_T := xt_in (List.mem_of_getElem? (i := 160) (by decide +kernel)) (by decide +kernel)
theorem wk_CK : Cond.instantiable "StackedRows$Checks" 1 ∈ xt_T := xt_in (List.mem_of_getElem? (i := 201) (by decide +kernel)) (by decide +kernel)
theorem wk_CW : Cond.instantiable "StackedRows$Codewords" 2 ∈ xt_T := xt_in (List.mem_of_getElem? (i := 129) (by decide +kernel)) (by decide +kernel)
theorem wk_MD : Cond.instantiable "StackedRows$Mender" 9 ∈ xt_T := xt_in (List.mem_of_getElem? (i := 233) (by decide +kernel)) (by decide +kernel)
theorem wk_RD : Cond.instantiable "StackedRows$Reader" 8 ∈ xt_T := xt_in (List.mem_of_getElem? (i := 269) (by decide +kernel)) (by decide +kernel)
theorem wk_SV : Cond.instantiable "StackedRows$Solver" 9 ∈ xt_T := xt_in (List.mem_of_getElem? (i := 227) (by decide +kernel)) (by decide +kernel)
theorem wk_SY : Cond.instantiable "StackedRows$Symbol" 3 ∈ xt_T := xt_in (List.mem_of_getElem? (i := 211) (by decide +kernel)) (by decide +kernel)
theorem wk_TP : Cond.instantiable "StackedRows$Tape" 2 ∈ xt_T := xt_in (List.mem_of_getElem? (i := 109) (by decide +kernel)) (by decide +kernel)
theorem wk_TW : Cond.instantiable "StackedRows$TextWriter" 3 ∈ xt_T := xt_in (List.mem_of_getElem? (i := 142) (by decide +kernel)) (by decide +kernel)
theorem wk_WR : Cond.instantiable "StackedRows$Writer" 8 ∈ xt_T := xt_in (List.mem_of_getElem? (i := 123) (by decide +kernel)) (by decide +kernel)
theorem wk_MO : Cond.instantiable "StackedRowsModel" 32 ∈ xt_T := xt_in (List.mem_of_getElem? (i := 1060) (by decide +kernel)) (by decide +kernel)
theorem fi_SR : ∀ w ∈ u_ws "StackedRows" tk_T0 7, w ∈ xt_T := by
  intro w hw
  obtain ⟨k, hk, rfl⟩ := List.mem_map.mp hw
  have hk := List.mem_range.mp hk
  rcases (show k = 0 ∨ k = 1 ∨ k = 2 ∨ k = 3 ∨ k = 4 ∨ k = 5 ∨ k = 6 by omega) with rfl | rfl | rfl | rfl | rfl | rfl | rfl
  · exact xt_in (List.mem_of_getElem? (i := 337) (by decide +kernel)) (by decide +kernel)
  · exact xt_in (List.mem_of_getElem? (i := 339) (by decide +kernel)) (by decide +kernel)
  · exact xt_in (List.mem_of_getElem? (i := 341) (by decide +kernel)) (by decide +kernel)
  · exact xt_in (List.mem_of_getElem? (i := 343) (by decide +kernel)) (by decide +kernel)
  · exact xt_in (List.mem_of_getElem? (i := 345) (by decide +kernel)) (by decide +kernel)
  · exact xt_in (List.mem_of_getElem? (i := 347) (by decide +kernel)) (by decide +kernel)
  · exact xt_in (List.mem_of_getElem? (i := 349) (by decide +kernel)) (by decide +kernel)
theorem fi_BN : ∀ w ∈ u_ws "StackedRows$BigNumber" tk_T1 2, w ∈ xt_T := by
  intro w hw
  obtain ⟨k, hk, rfl⟩ := List.mem_map.mp hw
  have hk := List.mem_range.mp hk
  rcases (show k = 0 ∨ k = 1 by omega) with rfl | rfl
  · exact xt_in (List.mem_of_getElem? (i := 170) (by decide +kernel)) (by decide +kernel)
  · exact xt_in (List.mem_of_getElem? (i := 172) (by decide +kernel)) (by decide +kernel)
theorem fi_CK : ∀ w ∈ u_ws "StackedRows$Checks" tk_T2 1, w ∈ xt_T := by
  intro w hw
  obtain ⟨k, hk, rfl⟩ := List.mem_map.mp hw
  have hk := List.mem_range.mp hk
  rcases (show k = 0 by omega) with rfl
  · exact xt_in (List.mem_of_getElem? (i := 207) (by decide +kernel)) (by decide +kernel)
theorem fi_CW : ∀ w ∈ u_ws "StackedRows$Codewords" tk_T3 2, w ∈ xt_T := by
  intro w hw
  obtain ⟨k, hk, rfl⟩ := List.mem_map.mp hw
  have hk := List.mem_range.mp hk
  rcases (show k = 0 ∨ k = 1 by omega) with rfl | rfl
  · exact xt_in (List.mem_of_getElem? (i := 136) (by decide +kernel)) (by decide +kernel)
  · exact xt_in (List.mem_of_getElem? (i := 138) (by decide +kernel)) (by decide +kernel)
theorem fi_MD : ∀ w ∈ u_ws "StackedRows$Mender" tk_T4 9, w ∈ xt_T := by
  intro w hw
  obtain ⟨k, hk, rfl⟩ := List.mem_map.mp hw
  have hk := List.mem_range.mp hk
  rcases (show k = 0 ∨ k = 1 ∨ k = 2 ∨ k = 3 ∨ k = 4 ∨ k = 5 ∨ k = 6 ∨ k = 7 ∨ k = 8 by omega) with rfl | rfl | rfl | rfl | rfl | rfl | rfl | rfl | rfl
  · exact xt_in (List.mem_of_getElem? (i := 247) (by decide +kernel)) (by decide +kernel)
  · exact xt_in (List.mem_of_getElem? (i := 249) (by decide +kernel)) (by decide +kernel)
  · exact xt_in (List.mem_of_getElem? (i := 251) (by decide +kernel)) (by decide +kernel)
  · exact xt_in (List.mem_of_getElem? (i := 253) (by decide +kernel)) (by decide +kernel)
  · exact xt_in (List.mem_of_getElem? (i := 255) (by decide +kernel)) (by decide +kernel)
  · exact xt_in (List.mem_of_getElem? (i := 257) (by decide +kernel)) (by decide +kernel)
  · exact xt_in (List.mem_of_getElem? (i := 259) (by decide +kernel)) (by decide +kernel)
  · exact xt_in (List.mem_of_getElem? (i := 261) (by decide +kernel)) (by decide +kernel)
  · exact xt_in (List.mem_of_getElem? (i := 263) (by decide +kernel)) (by decide +kernel)
theorem fi_RD : ∀ w ∈ u_ws "StackedRows$Reader" tk_T5 8, w ∈ xt_T := by
  intro w hw
  obtain ⟨k, hk, rfl⟩ := List.mem_map.mp hw
  have hk := List.mem_range.mp hk
  rcases (show k = 0 ∨ k = 1 ∨ k = 2 ∨ k = 3 ∨ k = 4 ∨ k = 5 ∨ k = 6 ∨ k = 7 by omega) with rfl | rfl | rfl | rfl | rfl | rfl | rfl | rfl
  · exact xt_in (List.mem_of_getElem? (i := 285) (by decide +kernel)) (by decide +kernel)
  · exact xt_in (List.mem_of_getElem? (i := 287) (by decide +kernel)) (by decide +kernel)
  · exact xt_in (List.mem_of_getElem? (i := 289) (by decide +kernel)) (by decide +kernel)
  · exact xt_in (List.mem_of_getElem? (i := 291) (by decide +kernel)) (by decide +kernel)
  · exact xt_in (List.mem_of_getElem? (i := 293) (by decide +kernel)) (by decide +kernel)
  · exact xt_in (List.mem_of_getElem? (i := 295) (by decide +kernel)) (by decide +kernel)
  · exact xt_in (List.mem_of_getElem? (i := 297) (by decide +kernel)) (by decide +kernel)
  · exact xt_in (List.mem_of_getElem? (i := 299) (by decide +kernel)) (by decide +kernel)
theorem fi_SV : ∀ w ∈ u_ws "StackedRows$Solver" tk_T6 9, w ∈ xt_T := by
  intro w hw
  obtain ⟨k, hk, rfl⟩ := List.mem_map.mp hw
  have hk := List.mem_range.mp hk
  rcases (show k = 0 ∨ k = 1 ∨ k = 2 ∨ k = 3 ∨ k = 4 ∨ k = 5 ∨ k = 6 ∨ k = 7 ∨ k = 8 by omega) with rfl | rfl | rfl | rfl | rfl | rfl | rfl | rfl | rfl
  · exact xt_in (List.mem_of_getElem? (i := 311) (by decide +kernel)) (by decide +kernel)
  · exact xt_in (List.mem_of_getElem? (i := 313) (by decide +kernel)) (by decide +kernel)
  · exact xt_in (List.mem_of_getElem? (i := 315) (by decide +kernel)) (by decide +kernel)
  · exact xt_in (List.mem_of_getElem? (i := 317) (by decide +kernel)) (by decide +kernel)
  · exact xt_in (List.mem_of_getElem? (i := 319) (by decide +kernel)) (by decide +kernel)
  · exact xt_in (List.mem_of_getElem? (i := 321) (by decide +kernel)) (by decide +kernel)
  · exact xt_in (List.mem_of_getElem? (i := 323) (by decide +kernel)) (by decide +kernel)
  · exact xt_in (List.mem_of_getElem? (i := 325) (by decide +kernel)) (by decide +kernel)
  · exact xt_in (List.mem_of_getElem? (i := 327) (by decide +kernel)) (by decide +kernel)
theorem fi_SY : ∀ w ∈ u_ws "StackedRows$Symbol" tk_T7 3, w ∈ xt_T := by
  intro w hw
  obtain ⟨k, hk, rfl⟩ := List.mem_map.mp hw
  have hk := List.mem_range.mp hk
  rcases (show k = 0 ∨ k = 1 ∨ k = 2 by omega) with rfl | rfl | rfl
  · exact xt_in (List.mem_of_getElem? (i := 219) (by decide +kernel)) (by decide +kernel)
  · exact xt_in (List.mem_of_getElem? (i := 221) (by decide +kernel)) (by decide +kernel)
  · exact xt_in (List.mem_of_getElem? (i := 223) (by decide +kernel)) (by decide +kernel)
theorem fi_TP : ∀ w ∈ u_ws "StackedRows$Tape" tk_T8 2, w ∈ xt_T := by
  intro w hw
  obtain ⟨k, hk, rfl⟩ := List.mem_map.mp hw
  have hk := List.mem_range.mp hk
  rcases (show k = 0 ∨ k = 1 by omega) with rfl | rfl
  · exact xt_in (List.mem_of_getElem? (i := 116) (by decide +kernel)) (by decide +kernel)
  · exact xt_in (List.mem_of_getElem? (i := 118) (by decide +kernel)) (by decide +kernel)
theorem fi_TW : ∀ w ∈ u_ws "StackedRows$TextWriter" tk_T9 3, w ∈ xt_T := by
  intro w hw
  obtain ⟨k, hk, rfl⟩ := List.mem_map.mp hw
  have hk := List.mem_range.mp hk
  rcases (show k = 0 ∨ k = 1 ∨ k = 2 by omega) with rfl | rfl | rfl
  · exact xt_in (List.mem_of_getElem? (i := 152) (by decide +kernel)) (by decide +kernel)
  · exact xt_in (List.mem_of_getElem? (i := 154) (by decide +kernel)) (by decide +kernel)
  · exact xt_in (List.mem_of_getElem? (i := 156) (by decide +kernel)) (by decide +kernel)
theorem fi_WR : ∀ w ∈ u_ws "StackedRows$Writer" tk_T10 8, w ∈ xt_T := by
  intro w hw
  obtain ⟨k, hk, rfl⟩ := List.mem_map.mp hw
  have hk := List.mem_range.mp hk
  rcases (show k = 0 ∨ k = 1 ∨ k = 2 ∨ k = 3 ∨ k = 4 ∨ k = 5 ∨ k = 6 ∨ k = 7 by omega) with rfl | rfl | rfl | rfl | rfl | rfl | rfl | rfl
  · exact xt_in (List.mem_of_getElem? (i := 183) (by decide +kernel)) (by decide +kernel)
  · exact xt_in (List.mem_of_getElem? (i := 185) (by decide +kernel)) (by decide +kernel)
  · exact xt_in (List.mem_of_getElem? (i := 187) (by decide +kernel)) (by decide +kernel)
  · exact xt_in (List.mem_of_getElem? (i := 189) (by decide +kernel)) (by decide +kernel)
  · exact xt_in (List.mem_of_getElem? (i := 191) (by decide +kernel)) (by decide +kernel)
  · exact xt_in (List.mem_of_getElem? (i := 193) (by decide +kernel)) (by decide +kernel)
  · exact xt_in (List.mem_of_getElem? (i := 195) (by decide +kernel)) (by decide +kernel)
  · exact xt_in (List.mem_of_getElem? (i := 197) (by decide +kernel)) (by decide +kernel)
theorem fi_MO : ∀ w ∈ u_ws "StackedRowsModel" tk_T11 32, w ∈ xt_T := by
  intro w hw
  obtain ⟨k, hk, rfl⟩ := List.mem_map.mp hw
  have hk := List.mem_range.mp hk
  rcases (show k = 0 ∨ k = 1 ∨ k = 2 ∨ k = 3 ∨ k = 4 ∨ k = 5 ∨ k = 6 ∨ k = 7 ∨ k = 8 ∨ k = 9 ∨ k = 10 ∨ k = 11 ∨ k = 12 ∨ k = 13 ∨ k = 14 ∨ k = 15 ∨ k = 16 ∨ k = 17 ∨ k = 18 ∨ k = 19 ∨ k = 20 ∨ k = 21 ∨ k = 22 ∨ k = 23 ∨ k = 24 ∨ k = 25 ∨ k = 26 ∨ k = 27 ∨ k = 28 ∨ k = 29 ∨ k = 30 ∨ k = 31 by omega) with rfl | rfl | rfl | rfl | rfl | rfl | rfl | rfl | rfl | rfl | rfl | rfl | rfl | rfl | rfl | rfl | rfl | rfl | rfl | rfl | rfl | rfl | rfl | rfl | rfl | rfl | rfl | rfl | rfl | rfl | rfl | rfl
  · exact xt_in (List.mem_of_getElem? (i := 1097) (by decide +kernel)) (by decide +kernel)
  · exact xt_in (List.mem_of_getElem? (i := 1099) (by decide +kernel)) (by decide +kernel)
  · exact xt_in (List.mem_of_getElem? (i := 1101) (by decide +kernel)) (by decide +kernel)
  · exact xt_in (List.mem_of_getElem? (i := 1103) (by decide +kernel)) (by decide +kernel)
  · exact xt_in (List.mem_of_getElem? (i := 1105) (by decide +kernel)) (by decide +kernel)
  · exact xt_in (List.mem_of_getElem? (i := 1107) (by decide +kernel)) (by decide +kernel)
  · exact xt_in (List.mem_of_getElem? (i := 1109) (by decide +kernel)) (by decide +kernel)
  · exact xt_in (List.mem_of_getElem? (i := 1111) (by decide +kernel)) (by decide +kernel)
  · exact xt_in (List.mem_of_getElem? (i := 1113) (by decide +kernel)) (by decide +kernel)
  · exact xt_in (List.mem_of_getElem? (i := 1115) (by decide +kernel)) (by decide +kernel)
  · exact xt_in (List.mem_of_getElem? (i := 1117) (by decide +kernel)) (by decide +kernel)
  · exact xt_in (List.mem_of_getElem? (i := 1119) (by decide +kernel)) (by decide +kernel)
  · exact xt_in (List.mem_of_getElem? (i := 1121) (by decide +kernel)) (by decide +kernel)
  · exact xt_in (List.mem_of_getElem? (i := 1123) (by decide +kernel)) (by decide +kernel)
  · exact xt_in (List.mem_of_getElem? (i := 1125) (by decide +kernel)) (by decide +kernel)
  · exact xt_in (List.mem_of_getElem? (i := 1127) (by decide +kernel)) (by decide +kernel)
  · exact xt_in (List.mem_of_getElem? (i := 1129) (by decide +kernel)) (by decide +kernel)
  · exact xt_in (List.mem_of_getElem? (i := 1131) (by decide +kernel)) (by decide +kernel)
  · exact xt_in (List.mem_of_getElem? (i := 1133) (by decide +kernel)) (by decide +kernel)
  · exact xt_in (List.mem_of_getElem? (i := 1135) (by decide +kernel)) (by decide +kernel)
  · exact xt_in (List.mem_of_getElem? (i := 1137) (by decide +kernel)) (by decide +kernel)
  · exact xt_in (List.mem_of_getElem? (i := 1139) (by decide +kernel)) (by decide +kernel)
  · exact xt_in (List.mem_of_getElem? (i := 1141) (by decide +kernel)) (by decide +kernel)
  · exact xt_in (List.mem_of_getElem? (i := 1143) (by decide +kernel)) (by decide +kernel)
  · exact xt_in (List.mem_of_getElem? (i := 1145) (by decide +kernel)) (by decide +kernel)
  · exact xt_in (List.mem_of_getElem? (i := 1147) (by decide +kernel)) (by decide +kernel)
  · exact xt_in (List.mem_of_getElem? (i := 1149) (by decide +kernel)) (by decide +kernel)
  · exact xt_in (List.mem_of_getElem? (i := 1151) (by decide +kernel)) (by decide +kernel)
  · exact xt_in (List.mem_of_getElem? (i := 1153) (by decide +kernel)) (by decide +kernel)
  · exact xt_in (List.mem_of_getElem? (i := 1155) (by decide +kernel)) (by decide +kernel)
  · exact xt_in (List.mem_of_getElem? (i := 1157) (by decide +kernel)) (by decide +kernel)
  · exact xt_in (List.mem_of_getElem? (i := 1159) (by decide +kernel)) (by decide +kernel)
theorem fl_CK_9 : Cond.fieldLink "StackedRows$Checks" 9 "StackedRows$Checks" "factors" "[I" ∈ xt_T := xt_in (List.mem_of_getElem? (i := 206) (by decide +kernel)) (by decide +kernel)
theorem gf_CK_9 (hx : p.tables.exec = Jvm.exec) (hb : c.code = cc) (hts : ∀ w ∈ xt_T, w.before args s = true) (hown : s.vm.findClass "StackedRows$Checks" = some m.cls) (hK : va_K g.1 vwCl (xg_t g) s) (hP : va_P g.1 vwCl ws H) (q0 : Nat) {fs : List Value} (he : ws[q0]? = some (oc_o a 2 fs)) {v : Value} (hv : fs[0]? = some v) (hdg : decode cc pc = .ok (.getfield 9, 3)) (kk : W p l e R s m args below meth c H locs cells slots Q (F0 m (pc + 3) ls (v :: rest))) : W p l e R s m args below meth c H locs cells slots Q (F0 m pc ls (.ref a :: rest)) :=
  va_get (C := "StackedRows$Checks") (T := tk_T2) (N := 1) hx hb hts fi_CK hown hK hP q0 he rfl 0 (by decide) (hts _ fl_CK_9) (fun _ h9 => h9) hv hdg kk
theorem fl_CW_15 : Cond.fieldLink "StackedRows$Codewords" 15 "StackedRows$Codewords" "size" "I" ∈ xt_T := xt_in (List.mem_of_getElem? (i := 135) (by decide +kernel)) (by decide +kernel)
theorem gf_CW_15 (hx : p.tables.exec = Jvm.exec) (hb : c.code = cc) (hts : ∀ w ∈ xt_T, w.before args s = true) (hown : s.vm.findClass "StackedRows$Codewords" = some m.cls) (hK : va_K g.1 vwCl (xg_t g) s) (hP : va_P g.1 vwCl ws H) (q0 : Nat) {fs : List Value} (he : ws[q0]? = some (oc_o a 3 fs)) {v : Value} (hv : fs[1]? = some v) (hdg : decode cc pc = .ok (.getfield 15, 3)) (kk : W p l e R s m args below meth c H locs cells slots Q (F0 m (pc + 3) ls (v :: rest))) : W p l e R s m args below meth c H locs cells slots Q (F0 m pc ls (.ref a :: rest)) :=
  va_get (C := "StackedRows$Codewords") (T := tk_T3) (N := 2) hx hb hts fi_CW hown hK hP q0 he rfl 1 (by decide) (hts _ fl_CW_15) (fun _ h9 => h9) hv hdg kk
theorem fl_SV_18 : Cond.fieldLink "StackedRows$Solver" 18 "StackedRows$Solver" "mended" "[I" ∈ xt_T := xt_in (List.mem_of_getElem? (i := 304) (by decide +kernel)) (by decide +kernel)
theorem gf_SV_18 (hx : p.tables.exec = Jvm.exec) (hb : c.code = cc) (hts : ∀ w ∈ xt_T, w.before args s = true) (hown : s.vm.findClass "StackedRows$Solver" = some m.cls) (hK : va_K g.1 vwCl (xg_t g) s) (hP : va_P g.1 vwCl ws H) (q0 : Nat) {fs : List Value} (he : ws[q0]? = some (oc_o a 6 fs)) {v : Value} (hv : fs[2]? = some v) (hdg : decode cc pc = .ok (.getfield 18, 3)) (kk : W p l e R s m args below meth c H locs cells slots Q (F0 m (pc + 3) ls (v :: rest))) : W p l e R s m args below meth c H locs cells slots Q (F0 m pc ls (.ref a :: rest)) :=
  va_get (C := "StackedRows$Solver") (T := tk_T6) (N := 9) hx hb hts fi_SV hown hK hP q0 he rfl 2 (by decide) (hts _ fl_SV_18) (fun _ h9 => h9) hv hdg kk
theorem fl_SV_33 : Cond.fieldLink "StackedRows$Solver" 33 "StackedRows$Solver" "bytes" "LStackedRows$Tape;" ∈ xt_T := xt_in (List.mem_of_getElem? (i := 306) (by decide +kernel)) (by decide +kernel)
theorem gf_SV_33 (hx : p.tables.exec = Jvm.exec) (hb : c.code = cc) (hts : ∀ w ∈ xt_T, w.before args s = true) (hown : s.vm.findClass "StackedRows$Solver" = some m.cls) (hK : va_K g.1 vwCl (xg_t g) s) (hP : va_P g.1 vwCl ws H) (q0 : Nat) {fs : List Value} (he : ws[q0]? = some (oc_o a 6 fs)) {v : Value} (hv : fs[4]? = some v) (hdg : decode cc pc = .ok (.getfield 33, 3)) (kk : W p l e R s m args below meth c H locs cells slots Q (F0 m (pc + 3) ls (v :: rest))) : W p l e R s m args below meth c H locs cells slots Q (F0 m pc ls (.ref a :: rest)) :=
  va_get (C := "StackedRows$Solver") (T := tk_T6) (N := 9) hx hb hts fi_SV hown hK hP q0 he rfl 4 (by decide) (hts _ fl_SV_33) (fun _ h9 => h9) hv hdg kk
theorem fl_SY_15 : Cond.fieldLink "StackedRows$Symbol" 15 "StackedRows$Symbol" "rows" "I" ∈ xt_T := xt_in (List.mem_of_getElem? (i := 217) (by decide +kernel)) (by decide +kernel)
theorem gf_SY_15 (hx : p.tables.exec = Jvm.exec) (hb : c.code = cc) (hts : ∀ w ∈ xt_T, w.before args s = true) (hown : s.vm.findClass "StackedRows$Symbol" = some m.cls) (hK : va_K g.1 vwCl (xg_t g) s) (hP : va_P g.1 vwCl ws H) (q0 : Nat) {fs : List Value} (he : ws[q0]? = some (oc_o a 7 fs)) {v : Value} (hv : fs[1]? = some v) (hdg : decode cc pc = .ok (.getfield 15, 3)) (kk : W p l e R s m args below meth c H locs cells slots Q (F0 m (pc + 3) ls (v :: rest))) : W p l e R s m args below meth c H locs cells slots Q (F0 m pc ls (.ref a :: rest)) :=
  va_get (C := "StackedRows$Symbol") (T := tk_T7) (N := 3) hx hb hts fi_SY hown hK hP q0 he rfl 1 (by decide) (hts _ fl_SY_15) (fun _ h9 => h9) hv hdg kk
theorem fl_SY_19 : Cond.fieldLink "StackedRows$Symbol" 19 "StackedRows$Symbol" "columns" "I" ∈ xt_T := xt_in (List.mem_of_getElem? (i := 218) (by decide +kernel)) (by decide +kernel)
theorem gf_SY_19 (hx : p.tables.exec = Jvm.exec) (hb : c.code = cc) (hts : ∀ w ∈ xt_T, w.before args s = true) (hown : s.vm.findClass "StackedRows$Symbol" = some m.cls) (hK : va_K g.1 vwCl (xg_t g) s) (hP : va_P g.1 vwCl ws H) (q0 : Nat) {fs : List Value} (he : ws[q0]? = some (oc_o a 7 fs)) {v : Value} (hv : fs[2]? = some v) (hdg : decode cc pc = .ok (.getfield 19, 3)) (kk : W p l e R s m args below meth c H locs cells slots Q (F0 m (pc + 3) ls (v :: rest))) : W p l e R s m args below meth c H locs cells slots Q (F0 m pc ls (.ref a :: rest)) :=
  va_get (C := "StackedRows$Symbol") (T := tk_T7) (N := 3) hx hb hts fi_SY hown hK hP q0 he rfl 2 (by decide) (hts _ fl_SY_19) (fun _ h9 => h9) hv hdg kk
theorem fl_SY_9 : Cond.fieldLink "StackedRows$Symbol" 9 "StackedRows$Symbol" "places" "[I" ∈ xt_T := xt_in (List.mem_of_getElem? (i := 216) (by decide +kernel)) (by decide +kernel)
theorem gf_SY_9 (hx : p.tables.exec = Jvm.exec) (hb : c.code = cc) (hts : ∀ w ∈ xt_T, w.before args s = true) (hown : s.vm.findClass "StackedRows$Symbol" = some m.cls) (hK : va_K g.1 vwCl (xg_t g) s) (hP : va_P g.1 vwCl ws H) (q0 : Nat) {fs : List Value} (he : ws[q0]? = some (oc_o a 7 fs)) {v : Value} (hv : fs[0]? = some v) (hdg : decode cc pc = .ok (.getfield 9, 3)) (kk : W p l e R s m args below meth c H locs cells slots Q (F0 m (pc + 3) ls (v :: rest))) : W p l e R s m args below meth c H locs cells slots Q (F0 m pc ls (.ref a :: rest)) :=
  va_get (C := "StackedRows$Symbol") (T := tk_T7) (N := 3) hx hb hts fi_SY hown hK hP q0 he rfl 0 (by decide) (hts _ fl_SY_9) (fun _ h9 => h9) hv hdg kk
theorem fl_TP_15 : Cond.fieldLink "StackedRows$Tape" 15 "StackedRows$Tape" "size" "I" ∈ xt_T := xt_in (List.mem_of_getElem? (i := 115) (by decide +kernel)) (by decide +kernel)
theorem gf_TP_15 (hx : p.tables.exec = Jvm.exec) (hb : c.code = cc) (hts : ∀ w ∈ xt_T, w.before args s = true) (hown : s.vm.findClass "StackedRows$Tape" = some m.cls) (hK : va_K g.1 vwCl (xg_t g) s) (hP : va_P g.1 vwCl ws H) (q0 : Nat) {fs : List Value} (he : ws[q0]? = some (oc_o a 8 fs)) {v : Value} (hv : fs[1]? = some v) (hdg : decode cc pc = .ok (.getfield 15, 3)) (kk : W p l e R s m args below meth c H locs cells slots Q (F0 m (pc + 3) ls (v :: rest))) : W p l e R s m args below meth c H locs cells slots Q (F0 m pc ls (.ref a :: rest)) :=
  va_get (C := "StackedRows$Tape") (T := tk_T8) (N := 2) hx hb hts fi_TP hown hK hP q0 he rfl 1 (by decide) (hts _ fl_TP_15) (fun _ h9 => h9) hv hdg kk
theorem fl_TP_9 : Cond.fieldLink "StackedRows$Tape" 9 "StackedRows$Tape" "bytes" "[I" ∈ xt_T := xt_in (List.mem_of_getElem? (i := 114) (by decide +kernel)) (by decide +kernel)
theorem gf_TP_9 (hx : p.tables.exec = Jvm.exec) (hb : c.code = cc) (hts : ∀ w ∈ xt_T, w.before args s = true) (hown : s.vm.findClass "StackedRows$Tape" = some m.cls) (hK : va_K g.1 vwCl (xg_t g) s) (hP : va_P g.1 vwCl ws H) (q0 : Nat) {fs : List Value} (he : ws[q0]? = some (oc_o a 8 fs)) {v : Value} (hv : fs[0]? = some v) (hdg : decode cc pc = .ok (.getfield 9, 3)) (kk : W p l e R s m args below meth c H locs cells slots Q (F0 m (pc + 3) ls (v :: rest))) : W p l e R s m args below meth c H locs cells slots Q (F0 m pc ls (.ref a :: rest)) :=
  va_get (C := "StackedRows$Tape") (T := tk_T8) (N := 2) hx hb hts fi_TP hown hK hP q0 he rfl 0 (by decide) (hts _ fl_TP_9) (fun _ h9 => h9) hv hdg kk
theorem fl_WR_18 : Cond.fieldLink "StackedRows$Writer" 18 "StackedRows$Writer" "out" "LStackedRows$Codewords;" ∈ xt_T := xt_in (List.mem_of_getElem? (i := 176) (by decide +kernel)) (by decide +kernel)
theorem gf_WR_18 (hx : p.tables.exec = Jvm.exec) (hb : c.code = cc) (hts : ∀ w ∈ xt_T, w.before args s = true) (hown : s.vm.findClass "StackedRows$Writer" = some m.cls) (hK : va_K g.1 vwCl (xg_t g) s) (hP : va_P g.1 vwCl ws H) (q0 : Nat) {fs : List Value} (he : ws[q0]? = some (oc_o a 10 fs)) {v : Value} (hv : fs[1]? = some v) (hdg : decode cc pc = .ok (.getfield 18, 3)) (kk : W p l e R s m args below meth c H locs cells slots Q (F0 m (pc + 3) ls (v :: rest))) : W p l e R s m args below meth c H locs cells slots Q (F0 m pc ls (.ref a :: rest)) :=
  va_get (C := "StackedRows$Writer") (T := tk_T10) (N := 8) hx hb hts fi_WR hown hK hP q0 he rfl 1 (by decide) (hts _ fl_WR_18) (fun _ h9 => h9) hv hdg kk
theorem fl_WR_27 : Cond.fieldLink "StackedRows$Writer" 27 "StackedRows$Writer" "text" "LStackedRows$TextWriter;" ∈ xt_T := xt_in (List.mem_of_getElem? (i := 177) (by decide +kernel)) (by decide +kernel)
theorem gf_WR_27 (hx : p.tables.exec = Jvm.exec) (hb : c.code = cc) (hts : ∀ w ∈ xt_T, w.before args s = true) (hown : s.vm.findClass "StackedRows$Writer" = some m.cls) (hK : va_K g.1 vwCl (xg_t g) s) (hP : va_P g.1 vwCl ws H) (q0 : Nat) {fs : List Value} (he : ws[q0]? = some (oc_o a 10 fs)) {v : Value} (hv : fs[2]? = some v) (hdg : decode cc pc = .ok (.getfield 27, 3)) (kk : W p l e R s m args below meth c H locs cells slots Q (F0 m (pc + 3) ls (v :: rest))) : W p l e R s m args below meth c H locs cells slots Q (F0 m pc ls (.ref a :: rest)) :=
  va_get (C := "StackedRows$Writer") (T := tk_T10) (N := 8) hx hb hts fi_WR hown hK hP q0 he rfl 2 (by decide) (hts _ fl_WR_27) (fun _ h9 => h9) hv hdg kk
theorem fl_WR_40 : Cond.fieldLink "StackedRows$Writer" 40 "StackedRows$Writer" "digits" "[I" ∈ xt_T := xt_in (List.mem_of_getElem? (i := 179) (by decide +kernel)) (by decide +kernel)
theorem gf_WR_40 (hx : p.tables.exec = Jvm.exec) (hb : c.code = cc) (hts : ∀ w ∈ xt_T, w.before args s = true) (hown : s.vm.findClass "StackedRows$Writer" = some m.cls) (hK : va_K g.1 vwCl (xg_t g) s) (hP : va_P g.1 vwCl ws H) (q0 : Nat) {fs : List Value} (he : ws[q0]? = some (oc_o a 10 fs)) {v : Value} (hv : fs[4]? = some v) (hdg : decode cc pc = .ok (.getfield 40, 3)) (kk : W p l e R s m args below meth c H locs cells slots Q (F0 m (pc + 3) ls (v :: rest))) : W p l e R s m args below meth c H locs cells slots Q (F0 m pc ls (.ref a :: rest)) :=
  va_get (C := "StackedRows$Writer") (T := tk_T10) (N := 8) hx hb hts fi_WR hown hK hP q0 he rfl 4 (by decide) (hts _ fl_WR_40) (fun _ h9 => h9) hv hdg kk
theorem fl_WR_44 : Cond.fieldLink "StackedRows$Writer" 44 "StackedRows$Writer" "texts" "[I" ∈ xt_T := xt_in (List.mem_of_getElem? (i := 180) (by decide +kernel)) (by decide +kernel)
theorem gf_WR_44 (hx : p.tables.exec = Jvm.exec) (hb : c.code = cc) (hts : ∀ w ∈ xt_T, w.before args s = true) (hown : s.vm.findClass "StackedRows$Writer" = some m.cls) (hK : va_K g.1 vwCl (xg_t g) s) (hP : va_P g.1 vwCl ws H) (q0 : Nat) {fs : List Value} (he : ws[q0]? = some (oc_o a 10 fs)) {v : Value} (hv : fs[5]? = some v) (hdg : decode cc pc = .ok (.getfield 44, 3)) (kk : W p l e R s m args below meth c H locs cells slots Q (F0 m (pc + 3) ls (v :: rest))) : W p l e R s m args below meth c H locs cells slots Q (F0 m pc ls (.ref a :: rest)) :=
  va_get (C := "StackedRows$Writer") (T := tk_T10) (N := 8) hx hb hts fi_WR hown hK hP q0 he rfl 5 (by decide) (hts _ fl_WR_44) (fun _ h9 => h9) hv hdg kk
theorem fl_WR_51 : Cond.fieldLink "StackedRows$Writer" 51 "StackedRows$Writer" "fresh" "Z" ∈ xt_T := xt_in (List.mem_of_getElem? (i := 182) (by decide +kernel)) (by decide +kernel)
theorem gf_WR_51 (hx : p.tables.exec = Jvm.exec) (hb : c.code = cc) (hts : ∀ w ∈ xt_T, w.before args s = true) (hown : s.vm.findClass "StackedRows$Writer" = some m.cls) (hK : va_K g.1 vwCl (xg_t g) s) (hP : va_P g.1 vwCl ws H) (q0 : Nat) {fs : List Value} (he : ws[q0]? = some (oc_o a 10 fs)) {v : Value} (hv : fs[7]? = some v) (hdg : decode cc pc = .ok (.getfield 51, 3)) (kk : W p l e R s m args below meth c H locs cells slots Q (F0 m (pc + 3) ls (v :: rest))) : W p l e R s m args below meth c H locs cells slots Q (F0 m pc ls (.ref a :: rest)) :=
  va_get (C := "StackedRows$Writer") (T := tk_T10) (N := 8) hx hb hts fi_WR hown hK hP q0 he rfl 7 (by decide) (hts _ fl_WR_51) (fun _ h9 => h9) hv hdg kk
theorem fl_WR_9 : Cond.fieldLink "StackedRows$Writer" 9 "StackedRows$Writer" "tape" "LStackedRows$Tape;" ∈ xt_T := xt_in (List.mem_of_getElem? (i := 175) (by decide +kernel)) (by decide +kernel)
theorem gf_WR_9 (hx : p.tables.exec = Jvm.exec) (hb : c.code = cc) (hts : ∀ w ∈ xt_T, w.before args s = true) (hown : s.vm.findClass "StackedRows$Writer" = some m.cls) (hK : va_K g.1 vwCl (xg_t g) s) (hP : va_P g.1 vwCl ws H) (q0 : Nat) {fs : List Value} (he : ws[q0]? = some (oc_o a 10 fs)) {v : Value} (hv : fs[0]? = some v) (hdg : decode cc pc = .ok (.getfield 9, 3)) (kk : W p l e R s m args below meth c H locs cells slots Q (F0 m (pc + 3) ls (v :: rest))) : W p l e R s m args below meth c H locs cells slots Q (F0 m pc ls (.ref a :: rest)) :=
  va_get (C := "StackedRows$Writer") (T := tk_T10) (N := 8) hx hb hts fi_WR hown hK hP q0 he rfl 0 (by decide) (hts _ fl_WR_9) (fun _ h9 => h9) hv hdg kk
theorem fl_SR_12 : Cond.fieldLink "StackedRows" 12 "StackedRows" "tape" "LStackedRows$Tape;" ∈ xt_T := xt_in (List.mem_of_getElem? (i := 330) (by decide +kernel)) (by decide +kernel)
theorem gf_SR_12 (hx : p.tables.exec = Jvm.exec) (hb : c.code = cc) (hts : ∀ w ∈ xt_T, w.before args s = true) (hown : s.vm.findClass "StackedRows" = some m.cls) (hK : va_K g.1 vwCl (xg_t g) s) (hP : va_P g.1 vwCl ws H) (q0 : Nat) {fs : List Value} (he : ws[q0]? = some (oc_o a 0 fs)) {v : Value} (hv : fs[0]? = some v) (hdg : decode cc pc = .ok (.getfield 12, 3)) (kk : W p l e R s m args below meth c H locs cells slots Q (F0 m (pc + 3) ls (v :: rest))) : W p l e R s m args below meth c H locs cells slots Q (F0 m pc ls (.ref a :: rest)) :=
  va_get (C := "StackedRows") (T := tk_T0) (N := 7) hx hb hts fi_SR hown hK hP q0 he rfl 0 (by decide) (hts _ fl_SR_12) (fun _ h9 => h9) hv hdg kk
theorem fl_SR_21 : Cond.fieldLink "StackedRows" 21 "StackedRows" "writer" "LStackedRows$Writer;" ∈ xt_T := xt_in (List.mem_of_getElem? (i := 331) (by decide +kernel)) (by decide +kernel)
theorem gf_SR_21 (hx : p.tables.exec = Jvm.exec) (hb : c.code = cc) (hts : ∀ w ∈ xt_T, w.before args s = true) (hown : s.vm.findClass "StackedRows" = some m.cls) (hK : va_K g.1 vwCl (xg_t g) s) (hP : va_P g.1 vwCl ws H) (q0 : Nat) {fs : List Value} (he : ws[q0]? = some (oc_o a 0 fs)) {v : Value} (hv : fs[1]? = some v) (hdg : decode cc pc = .ok (.getfield 21, 3)) (kk : W p l e R s m args below meth c H locs cells slots Q (F0 m (pc + 3) ls (v :: rest))) : W p l e R s m args below meth c H locs cells slots Q (F0 m pc ls (.ref a :: rest)) :=
  va_get (C := "StackedRows") (T := tk_T0) (N := 7) hx hb hts fi_SR hown hK hP q0 he rfl 1 (by decide) (hts _ fl_SR_21) (fun _ h9 => h9) hv hdg kk
theorem fl_SR_28 : Cond.fieldLink "StackedRows" 28 "StackedRows" "checks" "LStackedRows$Checks;" ∈ xt_T := xt_in (List.mem_of_getElem? (i := 332) (by decide +kernel)) (by decide +kernel)
theorem gf_SR_28 (hx : p.tables.exec = Jvm.exec) (hb : c.code = cc) (hts : ∀ w ∈ xt_T, w.before args s = true) (hown : s.vm.findClass "StackedRows" = some m.cls) (hK : va_K g.1 vwCl (xg_t g) s) (hP : va_P g.1 vwCl ws H) (q0 : Nat) {fs : List Value} (he : ws[q0]? = some (oc_o a 0 fs)) {v : Value} (hv : fs[2]? = some v) (hdg : decode cc pc = .ok (.getfield 28, 3)) (kk : W p l e R s m args below meth c H locs cells slots Q (F0 m (pc + 3) ls (v :: rest))) : W p l e R s m args below meth c H locs cells slots Q (F0 m pc ls (.ref a :: rest)) :=
  va_get (C := "StackedRows") (T := tk_T0) (N := 7) hx hb hts fi_SR hown hK hP q0 he rfl 2 (by decide) (hts _ fl_SR_28) (fun _ h9 => h9) hv hdg kk
theorem fl_SR_35 : Cond.fieldLink "StackedRows" 35 "StackedRows" "symbol" "LStackedRows$Symbol;" ∈ xt_T := xt_in (List.mem_of_getElem? (i := 333) (by decide +kernel)) (by decide +kernel)
theorem gf_SR_35 (hx : p.tables.exec = Jvm.exec) (hb : c.code = cc) (hts : ∀ w ∈ xt_T, w.before args s = true) (hown : s.vm.findClass "StackedRows" = some m.cls) (hK : va_K g.1 vwCl (xg_t g) s) (hP : va_P g.1 vwCl ws H) (q0 : Nat) {fs : List Value} (he : ws[q0]? = some (oc_o a 0 fs)) {v : Value} (hv : fs[3]? = some v) (hdg : decode cc pc = .ok (.getfield 35, 3)) (kk : W p l e R s m args below meth c H locs cells slots Q (F0 m (pc + 3) ls (v :: rest))) : W p l e R s m args below meth c H locs cells slots Q (F0 m pc ls (.ref a :: rest)) :=
  va_get (C := "StackedRows") (T := tk_T0) (N := 7) hx hb hts fi_SR hown hK hP q0 he rfl 3 (by decide) (hts _ fl_SR_35) (fun _ h9 => h9) hv hdg kk
theorem fl_SR_39 : Cond.fieldLink "StackedRows" 39 "StackedRows" "row" "[I" ∈ xt_T := xt_in (List.mem_of_getElem? (i := 335) (by decide +kernel)) (by decide +kernel)
theorem gf_SR_39 (hx : p.tables.exec = Jvm.exec) (hb : c.code = cc) (hts : ∀ w ∈ xt_T, w.before args s = true) (hown : s.vm.findClass "StackedRows" = some m.cls) (hK : va_K g.1 vwCl (xg_t g) s) (hP : va_P g.1 vwCl ws H) (q0 : Nat) {fs : List Value} (he : ws[q0]? = some (oc_o a 0 fs)) {v : Value} (hv : fs[5]? = some v) (hdg : decode cc pc = .ok (.getfield 39, 3)) (kk : W p l e R s m args below meth c H locs cells slots Q (F0 m (pc + 3) ls (v :: rest))) : W p l e R s m args below meth c H locs cells slots Q (F0 m pc ls (.ref a :: rest)) :=
  va_get (C := "StackedRows") (T := tk_T0) (N := 7) hx hb hts fi_SR hown hK hP q0 he rfl 5 (by decide) (hts _ fl_SR_39) (fun _ h9 => h9) hv hdg kk
theorem fl_SR_52 : Cond.fieldLink "StackedRows" 52 "StackedRows" "latest" "[I" ∈ xt_T := xt_in (List.mem_of_getElem? (i := 336) (by decide +kernel)) (by decide +kernel)
theorem gf_SR_52 (hx : p.tables.exec = Jvm.exec) (hb : c.code = cc) (hts : ∀ w ∈ xt_T, w.before args s = true) (hown : s.vm.findClass "StackedRows" = some m.cls) (hK : va_K g.1 vwCl (xg_t g) s) (hP : va_P g.1 vwCl ws H) (q0 : Nat) {fs : List Value} (he : ws[q0]? = some (oc_o a 0 fs)) {v : Value} (hv : fs[6]? = some v) (hdg : decode cc pc = .ok (.getfield 52, 3)) (kk : W p l e R s m args below meth c H locs cells slots Q (F0 m (pc + 3) ls (v :: rest))) : W p l e R s m args below meth c H locs cells slots Q (F0 m pc ls (.ref a :: rest)) :=
  va_get (C := "StackedRows") (T := tk_T0) (N := 7) hx hb hts fi_SR hown hK hP q0 he rfl 6 (by decide) (hts _ fl_SR_52) (fun _ h9 => h9) hv hdg kk
theorem fl_MO_134 : Cond.fieldLink "StackedRowsModel" 134 "StackedRowsModel" "rows" "I" ∈ xt_T := xt_in (List.mem_of_getElem? (i := 1074) (by decide +kernel)) (by decide +kernel)
theorem gf_MO_134 (hx : p.tables.exec = Jvm.exec) (hb : c.code = cc) (hts : ∀ w ∈ xt_T, w.before args s = true) (hown : s.vm.findClass "StackedRowsModel" = some m.cls) (hK : va_K g.1 vwCl (xg_t g) s) (hP : va_P g.1 vwCl ws H) (q0 : Nat) {fs : List Value} (he : ws[q0]? = some (oc_o a 11 fs)) {v : Value} (hv : fs[9]? = some v) (hdg : decode cc pc = .ok (.getfield 134, 3)) (kk : W p l e R s m args below meth c H locs cells slots Q (F0 m (pc + 3) ls (v :: rest))) : W p l e R s m args below meth c H locs cells slots Q (F0 m pc ls (.ref a :: rest)) :=
  va_get (C := "StackedRowsModel") (T := tk_T11) (N := 32) hx hb hts fi_MO hown hK hP q0 he rfl 9 (by decide) (hts _ fl_MO_134) (fun _ h9 => h9) hv hdg kk
theorem fl_MO_137 : Cond.fieldLink "StackedRowsModel" 137 "StackedRowsModel" "columns" "I" ∈ xt_T := xt_in (List.mem_of_getElem? (i := 1075) (by decide +kernel)) (by decide +kernel)
theorem gf_MO_137 (hx : p.tables.exec = Jvm.exec) (hb : c.code = cc) (hts : ∀ w ∈ xt_T, w.before args s = true) (hown : s.vm.findClass "StackedRowsModel" = some m.cls) (hK : va_K g.1 vwCl (xg_t g) s) (hP : va_P g.1 vwCl ws H) (q0 : Nat) {fs : List Value} (he : ws[q0]? = some (oc_o a 11 fs)) {v : Value} (hv : fs[10]? = some v) (hdg : decode cc pc = .ok (.getfield 137, 3)) (kk : W p l e R s m args below meth c H locs cells slots Q (F0 m (pc + 3) ls (v :: rest))) : W p l e R s m args below meth c H locs cells slots Q (F0 m pc ls (.ref a :: rest)) :=
  va_get (C := "StackedRowsModel") (T := tk_T11) (N := 32) hx hb hts fi_MO hown hK hP q0 he rfl 10 (by decide) (hts _ fl_MO_137) (fun _ h9 => h9) hv hdg kk
theorem fl_MO_192 : Cond.fieldLink "StackedRowsModel" 192 "StackedRowsModel" "wrong" "I" ∈ xt_T := xt_in (List.mem_of_getElem? (i := 1079) (by decide +kernel)) (by decide +kernel)
theorem gf_MO_192 (hx : p.tables.exec = Jvm.exec) (hb : c.code = cc) (hts : ∀ w ∈ xt_T, w.before args s = true) (hown : s.vm.findClass "StackedRowsModel" = some m.cls) (hK : va_K g.1 vwCl (xg_t g) s) (hP : va_P g.1 vwCl ws H) (q0 : Nat) {fs : List Value} (he : ws[q0]? = some (oc_o a 11 fs)) {v : Value} (hv : fs[14]? = some v) (hdg : decode cc pc = .ok (.getfield 192, 3)) (kk : W p l e R s m args below meth c H locs cells slots Q (F0 m (pc + 3) ls (v :: rest))) : W p l e R s m args below meth c H locs cells slots Q (F0 m pc ls (.ref a :: rest)) :=
  va_get (C := "StackedRowsModel") (T := tk_T11) (N := 32) hx hb hts fi_MO hown hK hP q0 he rfl 14 (by decide) (hts _ fl_MO_192) (fun _ h9 => h9) hv hdg kk
theorem fl_MO_198 : Cond.fieldLink "StackedRowsModel" 198 "StackedRowsModel" "fault" "I" ∈ xt_T := xt_in (List.mem_of_getElem? (i := 1077) (by decide +kernel)) (by decide +kernel)
theorem gf_MO_198 (hx : p.tables.exec = Jvm.exec) (hb : c.code = cc) (hts : ∀ w ∈ xt_T, w.before args s = true) (hown : s.vm.findClass "StackedRowsModel" = some m.cls) (hK : va_K g.1 vwCl (xg_t g) s) (hP : va_P g.1 vwCl ws H) (q0 : Nat) {fs : List Value} (he : ws[q0]? = some (oc_o a 11 fs)) {v : Value} (hv : fs[12]? = some v) (hdg : decode cc pc = .ok (.getfield 198, 3)) (kk : W p l e R s m args below meth c H locs cells slots Q (F0 m (pc + 3) ls (v :: rest))) : W p l e R s m args below meth c H locs cells slots Q (F0 m pc ls (.ref a :: rest)) :=
  va_get (C := "StackedRowsModel") (T := tk_T11) (N := 32) hx hb hts fi_MO hown hK hP q0 he rfl 12 (by decide) (hts _ fl_MO_198) (fun _ h9 => h9) hv hdg kk
theorem fl_MO_201 : Cond.fieldLink "StackedRowsModel" 201 "StackedRowsModel" "faultAt" "I" ∈ xt_T := xt_in (List.mem_of_getElem? (i := 1078) (by decide +kernel)) (by decide +kernel)
theorem gf_MO_201 (hx : p.tables.exec = Jvm.exec) (hb : c.code = cc) (hts : ∀ w ∈ xt_T, w.before args s = true) (hown : s.vm.findClass "StackedRowsModel" = some m.cls) (hK : va_K g.1 vwCl (xg_t g) s) (hP : va_P g.1 vwCl ws H) (q0 : Nat) {fs : List Value} (he : ws[q0]? = some (oc_o a 11 fs)) {v : Value} (hv : fs[13]? = some v) (hdg : decode cc pc = .ok (.getfield 201, 3)) (kk : W p l e R s m args below meth c H locs cells slots Q (F0 m (pc + 3) ls (v :: rest))) : W p l e R s m args below meth c H locs cells slots Q (F0 m pc ls (.ref a :: rest)) :=
  va_get (C := "StackedRowsModel") (T := tk_T11) (N := 32) hx hb hts fi_MO hown hK hP q0 he rfl 13 (by decide) (hts _ fl_MO_201) (fun _ h9 => h9) hv hdg kk
theorem fl_MO_22 : Cond.fieldLink "StackedRowsModel" 22 "StackedRowsModel" "places" "[I" ∈ xt_T := xt_in (List.mem_of_getElem? (i := 1076) (by decide +kernel)) (by decide +kernel)
theorem gf_MO_22 (hx : p.tables.exec = Jvm.exec) (hb : c.code = cc) (hts : ∀ w ∈ xt_T, w.before args s = true) (hown : s.vm.findClass "StackedRowsModel" = some m.cls) (hK : va_K g.1 vwCl (xg_t g) s) (hP : va_P g.1 vwCl ws H) (q0 : Nat) {fs : List Value} (he : ws[q0]? = some (oc_o a 11 fs)) {v : Value} (hv : fs[11]? = some v) (hdg : decode cc pc = .ok (.getfield 22, 3)) (kk : W p l e R s m args below meth c H locs cells slots Q (F0 m (pc + 3) ls (v :: rest))) : W p l e R s m args below meth c H locs cells slots Q (F0 m pc ls (.ref a :: rest)) :=
  va_get (C := "StackedRowsModel") (T := tk_T11) (N := 32) hx hb hts fi_MO hown hK hP q0 he rfl 11 (by decide) (hts _ fl_MO_22) (fun _ h9 => h9) hv hdg kk
theorem fl_MO_228 : Cond.fieldLink "StackedRowsModel" 228 "StackedRowsModel" "told" "I" ∈ xt_T := xt_in (List.mem_of_getElem? (i := 1080) (by decide +kernel)) (by decide +kernel)
theorem gf_MO_228 (hx : p.tables.exec = Jvm.exec) (hb : c.code = cc) (hts : ∀ w ∈ xt_T, w.before args s = true) (hown : s.vm.findClass "StackedRowsModel" = some m.cls) (hK : va_K g.1 vwCl (xg_t g) s) (hP : va_P g.1 vwCl ws H) (q0 : Nat) {fs : List Value} (he : ws[q0]? = some (oc_o a 11 fs)) {v : Value} (hv : fs[15]? = some v) (hdg : decode cc pc = .ok (.getfield 228, 3)) (kk : W p l e R s m args below meth c H locs cells slots Q (F0 m (pc + 3) ls (v :: rest))) : W p l e R s m args below meth c H locs cells slots Q (F0 m pc ls (.ref a :: rest)) :=
  va_get (C := "StackedRowsModel") (T := tk_T11) (N := 32) hx hb hts fi_MO hown hK hP q0 he rfl 15 (by decide) (hts _ fl_MO_228) (fun _ h9 => h9) hv hdg kk
theorem fl_MO_25 : Cond.fieldLink "StackedRowsModel" 25 "StackedRowsModel" "row" "[I" ∈ xt_T := xt_in (List.mem_of_getElem? (i := 1081) (by decide +kernel)) (by decide +kernel)
theorem gf_MO_25 (hx : p.tables.exec = Jvm.exec) (hb : c.code = cc) (hts : ∀ w ∈ xt_T, w.before args s = true) (hown : s.vm.findClass "StackedRowsModel" = some m.cls) (hK : va_K g.1 vwCl (xg_t g) s) (hP : va_P g.1 vwCl ws H) (q0 : Nat) {fs : List Value} (he : ws[q0]? = some (oc_o a 11 fs)) {v : Value} (hv : fs[16]? = some v) (hdg : decode cc pc = .ok (.getfield 25, 3)) (kk : W p l e R s m args below meth c H locs cells slots Q (F0 m (pc + 3) ls (v :: rest))) : W p l e R s m args below meth c H locs cells slots Q (F0 m pc ls (.ref a :: rest)) :=
  va_get (C := "StackedRowsModel") (T := tk_T11) (N := 32) hx hb hts fi_MO hown hK hP q0 he rfl 16 (by decide) (hts _ fl_MO_25) (fun _ h9 => h9) hv hdg kk
theorem fl_MO_32 : Cond.fieldLink "StackedRowsModel" 32 "StackedRowsModel" "powers" "[I" ∈ xt_T := xt_in (List.mem_of_getElem? (i := 1083) (by decide +kernel)) (by decide +kernel)
theorem gf_MO_32 (hx : p.tables.exec = Jvm.exec) (hb : c.code = cc) (hts : ∀ w ∈ xt_T, w.before args s = true) (hown : s.vm.findClass "StackedRowsModel" = some m.cls) (hK : va_K g.1 vwCl (xg_t g) s) (hP : va_P g.1 vwCl ws H) (q0 : Nat) {fs : List Value} (he : ws[q0]? = some (oc_o a 11 fs)) {v : Value} (hv : fs[18]? = some v) (hdg : decode cc pc = .ok (.getfield 32, 3)) (kk : W p l e R s m args below meth c H locs cells slots Q (F0 m (pc + 3) ls (v :: rest))) : W p l e R s m args below meth c H locs cells slots Q (F0 m pc ls (.ref a :: rest)) :=
  va_get (C := "StackedRowsModel") (T := tk_T11) (N := 32) hx hb hts fi_MO hown hK hP q0 he rfl 18 (by decide) (hts _ fl_MO_32) (fun _ h9 => h9) hv hdg kk
theorem fl_MO_41 : Cond.fieldLink "StackedRowsModel" 41 "StackedRowsModel" "gone" "[I" ∈ xt_T := xt_in (List.mem_of_getElem? (i := 1086) (by decide +kernel)) (by decide +kernel)
theorem gf_MO_41 (hx : p.tables.exec = Jvm.exec) (hb : c.code = cc) (hts : ∀ w ∈ xt_T, w.before args s = true) (hown : s.vm.findClass "StackedRowsModel" = some m.cls) (hK : va_K g.1 vwCl (xg_t g) s) (hP : va_P g.1 vwCl ws H) (q0 : Nat) {fs : List Value} (he : ws[q0]? = some (oc_o a 11 fs)) {v : Value} (hv : fs[21]? = some v) (hdg : decode cc pc = .ok (.getfield 41, 3)) (kk : W p l e R s m args below meth c H locs cells slots Q (F0 m (pc + 3) ls (v :: rest))) : W p l e R s m args below meth c H locs cells slots Q (F0 m pc ls (.ref a :: rest)) :=
  va_get (C := "StackedRowsModel") (T := tk_T11) (N := 32) hx hb hts fi_MO hown hK hP q0 he rfl 21 (by decide) (hts _ fl_MO_41) (fun _ h9 => h9) hv hdg kk
theorem fl_MO_56 : Cond.fieldLink "StackedRowsModel" 56 "StackedRowsModel" "work" "[I" ∈ xt_T := xt_in (List.mem_of_getElem? (i := 1091) (by decide +kernel)) (by decide +kernel)
theorem gf_MO_56 (hx : p.tables.exec = Jvm.exec) (hb : c.code = cc) (hts : ∀ w ∈ xt_T, w.before args s = true) (hown : s.vm.findClass "StackedRowsModel" = some m.cls) (hK : va_K g.1 vwCl (xg_t g) s) (hP : va_P g.1 vwCl ws H) (q0 : Nat) {fs : List Value} (he : ws[q0]? = some (oc_o a 11 fs)) {v : Value} (hv : fs[26]? = some v) (hdg : decode cc pc = .ok (.getfield 56, 3)) (kk : W p l e R s m args below meth c H locs cells slots Q (F0 m (pc + 3) ls (v :: rest))) : W p l e R s m args below meth c H locs cells slots Q (F0 m pc ls (.ref a :: rest)) :=
  va_get (C := "StackedRowsModel") (T := tk_T11) (N := 32) hx hb hts fi_MO hown hK hP q0 he rfl 26 (by decide) (hts _ fl_MO_56) (fun _ h9 => h9) hv hdg kk
theorem fl_MO_68 : Cond.fieldLink "StackedRowsModel" 68 "StackedRowsModel" "thrown" "I" ∈ xt_T := xt_in (List.mem_of_getElem? (i := 1065) (by decide +kernel)) (by decide +kernel)
theorem gf_MO_68 (hx : p.tables.exec = Jvm.exec) (hb : c.code = cc) (hts : ∀ w ∈ xt_T, w.before args s = true) (hown : s.vm.findClass "StackedRowsModel" = some m.cls) (hK : va_K g.1 vwCl (xg_t g) s) (hP : va_P g.1 vwCl ws H) (q0 : Nat) {fs : List Value} (he : ws[q0]? = some (oc_o a 11 fs)) {v : Value} (hv : fs[0]? = some v) (hdg : decode cc pc = .ok (.getfield 68, 3)) (kk : W p l e R s m args below meth c H locs cells slots Q (F0 m (pc + 3) ls (v :: rest))) : W p l e R s m args below meth c H locs cells slots Q (F0 m pc ls (.ref a :: rest)) :=
  va_get (C := "StackedRowsModel") (T := tk_T11) (N := 32) hx hb hts fi_MO hown hK hP q0 he rfl 0 (by decide) (hts _ fl_MO_68) (fun _ h9 => h9) hv hdg kk
theorem fl_MO_7 : Cond.fieldLink "StackedRowsModel" 7 "StackedRowsModel" "tape" "[I" ∈ xt_T := xt_in (List.mem_of_getElem? (i := 1066) (by decide +kernel)) (by decide +kernel)
theorem gf_MO_7 (hx : p.tables.exec = Jvm.exec) (hb : c.code = cc) (hts : ∀ w ∈ xt_T, w.before args s = true) (hown : s.vm.findClass "StackedRowsModel" = some m.cls) (hK : va_K g.1 vwCl (xg_t g) s) (hP : va_P g.1 vwCl ws H) (q0 : Nat) {fs : List Value} (he : ws[q0]? = some (oc_o a 11 fs)) {v : Value} (hv : fs[1]? = some v) (hdg : decode cc pc = .ok (.getfield 7, 3)) (kk : W p l e R s m args below meth c H locs cells slots Q (F0 m (pc + 3) ls (v :: rest))) : W p l e R s m args below meth c H locs cells slots Q (F0 m pc ls (.ref a :: rest)) :=
  va_get (C := "StackedRowsModel") (T := tk_T11) (N := 32) hx hb hts fi_MO hown hK hP q0 he rfl 1 (by decide) (hts _ fl_MO_7) (fun _ h9 => h9) hv hdg kk
theorem fl_MO_72 : Cond.fieldLink "StackedRowsModel" 72 "StackedRowsModel" "tapeSize" "I" ∈ xt_T := xt_in (List.mem_of_getElem? (i := 1067) (by decide +kernel)) (by decide +kernel)
theorem gf_MO_72 (hx : p.tables.exec = Jvm.exec) (hb : c.code = cc) (hts : ∀ w ∈ xt_T, w.before args s = true) (hown : s.vm.findClass "StackedRowsModel" = some m.cls) (hK : va_K g.1 vwCl (xg_t g) s) (hP : va_P g.1 vwCl ws H) (q0 : Nat) {fs : List Value} (he : ws[q0]? = some (oc_o a 11 fs)) {v : Value} (hv : fs[2]? = some v) (hdg : decode cc pc = .ok (.getfield 72, 3)) (kk : W p l e R s m args below meth c H locs cells slots Q (F0 m (pc + 3) ls (v :: rest))) : W p l e R s m args below meth c H locs cells slots Q (F0 m pc ls (.ref a :: rest)) :=
  va_get (C := "StackedRowsModel") (T := tk_T11) (N := 32) hx hb hts fi_MO hown hK hP q0 he rfl 2 (by decide) (hts _ fl_MO_72) (fun _ h9 => h9) hv hdg kk
theorem fl_MO_89 : Cond.fieldLink "StackedRowsModel" 89 "StackedRowsModel" "wordCount" "I" ∈ xt_T := xt_in (List.mem_of_getElem? (i := 1069) (by decide +kernel)) (by decide +kernel)
theorem gf_MO_89 (hx : p.tables.exec = Jvm.exec) (hb : c.code = cc) (hts : ∀ w ∈ xt_T, w.before args s = true) (hown : s.vm.findClass "StackedRowsModel" = some m.cls) (hK : va_K g.1 vwCl (xg_t g) s) (hP : va_P g.1 vwCl ws H) (q0 : Nat) {fs : List Value} (he : ws[q0]? = some (oc_o a 11 fs)) {v : Value} (hv : fs[4]? = some v) (hdg : decode cc pc = .ok (.getfield 89, 3)) (kk : W p l e R s m args below meth c H locs cells slots Q (F0 m (pc + 3) ls (v :: rest))) : W p l e R s m args below meth c H locs cells slots Q (F0 m pc ls (.ref a :: rest)) :=
  va_get (C := "StackedRowsModel") (T := tk_T11) (N := 32) hx hb hts fi_MO hown hK hP q0 he rfl 4 (by decide) (hts _ fl_MO_89) (fun _ h9 => h9) hv hdg kk
theorem fl_RD_35 : Cond.fieldLink "StackedRows$Reader" 35 "StackedRows$Letters" "CAPITALS" "LStackedRows$Letters;" ∈ xt_T := xt_in (List.mem_of_getElem? (i := 276) (by decide +kernel)) (by decide +kernel)
theorem gs_RD_35 (hx : p.tables.exec = Jvm.exec) (hb : c.code = cc) (hts : ∀ w ∈ xt_T, w.before args s = true) (hown : s.vm.findClass "StackedRows$Reader" = some m.cls) (hE : xe_E A s s.heap) (hS : va_S A s.heap H locs) (hdg : decode cc pc = .ok (.getstatic 35, 3)) (kk : ∀ v : Value, (v = .null ∨ ∃ t, v = .ref t) → W p l e R s m args below meth c H locs cells slots Q (F0 m (pc + 3) ls (v :: rest))) : W p l e R s m args below meth c H locs cells slots Q (F0 m pc ls rest) :=
  xs_get hx hb hE.2.2.1 hS hown (hts _ fl_RD_35) (fun _ h9 => h9) hdg kk
theorem fl_TW_15 : Cond.fieldLink "StackedRows$TextWriter" 15 "StackedRows$Letters" "CAPITALS" "LStackedRows$Letters;" ∈ xt_T := xt_in (List.mem_of_getElem? (i := 147) (by decide +kernel)) (by decide +kernel)
theorem gs_TW_15 (hx : p.tables.exec = Jvm.exec) (hb : c.code = cc) (hts : ∀ w ∈ xt_T, w.before args s = true) (hown : s.vm.findClass "StackedRows$TextWriter" = some m.cls) (hE : xe_E A s s.heap) (hS : va_S A s.heap H locs) (hdg : decode cc pc = .ok (.getstatic 15, 3)) (kk : ∀ v : Value, (v = .null ∨ ∃ t, v = .ref t) → W p l e R s m args below meth c H locs cells slots Q (F0 m (pc + 3) ls (v :: rest))) : W p l e R s m args below meth c H locs cells slots Q (F0 m pc ls rest) :=
  xs_get hx hb hE.2.2.1 hS hown (hts _ fl_TW_15) (fun _ h9 => h9) hdg kk
theorem wmS : Cond.static Lib.Math.max.name ∈ xt_T := xt_in (List.mem_of_getElem? (i := 166) (by decide +kernel)) (by decide +kernel)
theorem wmN : Cond.initialized "java/lang/Math" ∈ xt_T := xt_in (List.mem_of_getElem? (i := 79) (by decide +kernel)) (by decide +kernel)
theorem wmC : Cond.code Lib.Math.max.name Lib.Math.max.code 2 (some .int) ∈ xt_T := xt_in (List.mem_of_getElem? (i := 167) (by decide +kernel)) (by decide +kernel)
theorem ml_BN_7 : Cond.methodLink "StackedRows$BigNumber" 7 Lib.Math.max.name ∈ xt_T := xt_in (List.mem_of_getElem? (i := 165) (by decide +kernel)) (by decide +kernel)
theorem mx_BN_7 (hx : p.tables.exec = Jvm.exec) (hb : c.code = cc) (hts : ∀ w ∈ xt_T, w.before args s = true) (hown : s.vm.findClass "StackedRows$BigNumber" = some m.cls) (hml : c.maxLocals = nL) (hsz : ls.size = nL) (hf : 1 ≤ R.frames) (hlo : (rest.map fun v => v.category).sum + 13 ≤ R.locals) (hc : cells ≤ R.cells) (hs : slots ≤ R.slots) {x y : Int32} (hd : decode cc pc = .ok (.invokestatic 7, 3)) (kk : W p l e R s m args below meth c H locs cells slots Q (F0 m (pc + 3) ls (.int (if x < y then y else x) :: rest))) : W p l e R s m args below meth c H locs cells slots Q (F0 m pc ls (.int y :: .int x :: rest)) :=
  va_mmax hx hb (hml.trans hsz.symm) hown (hts _ ml_BN_7) (hts _ wmS) (hts _ wmN) (hts _ wmC) hf hlo hc hs hd kk
theorem cl_RD_19 : Cond.classLink "StackedRows$Reader" 19 "StackedRows$BigNumber" ∈ xt_T := xt_in (List.mem_of_getElem? (i := 274) (by decide +kernel)) (by decide +kernel)
theorem nw_RD_19 (hx : p.tables.exec = Jvm.exec) (hb : c.code = cc) (hts : ∀ w ∈ xt_T, w.before args s = true) (hown : s.vm.findClass "StackedRows$Reader" = some m.cls) (hK : va_K g.1 vwCl (xg_t g) s) (hP : va_P g.1 vwCl ws H) (hD : va_D A ws) (hS : va_S A s.heap H locs) (hA : ∀ q, s.heap.size ≤ q → A q) (hk1 : cells + 1 = k1) (hk2 : slots + 2 = k2) (h3 : k1 ≤ R.cells) (h4 : k2 ≤ R.slots) (hdg : decode cc pc = .ok (.new 19, 3)) (kk : ∀ (q : Nat) (H1 : Heap), va_P g.1 vwCl (ws ++ [oc_o q 1 [.int (nI 0), .null]]) H1 → va_D A (ws ++ [oc_o q 1 [.int (nI 0), .null]]) → va_S A s.heap H1 locs → W p l e R s m args below meth c H1 locs k1 k2 Q (F0 m (pc + 3) ls (.ref q :: rest))) : W p l e R s m args below meth c H locs cells slots Q (F0 m pc ls rest) := by
  subst hk1; subst hk2
  exact va_new (C := "StackedRows$BigNumber") (T := tk_T1) (N := 2) hx hb hts fi_BN tk_y1 tk_o1 hown (hts _ cl_RD_19) (hts _ wk_BN) (hts _ wn_BN) hK hP hD hS hA rfl (fun j hj => by rcases (show j = 0 ∨ j = 1 by omega) with rfl | rfl <;> rfl) h3 h4 hdg kk
theorem cl_SV_21 : Cond.classLink "StackedRows$Solver" 21 "StackedRows$Mender" ∈ xt_T := xt_in (List.mem_of_getElem? (i := 232) (by decide +kernel)) (by decide +kernel)
theorem nw_SV_21 (hx : p.tables.exec = Jvm.exec) (hb : c.code = cc) (hts : ∀ w ∈ xt_T, w.before args s = true) (hown : s.vm.findClass "StackedRows$Solver" = some m.cls) (hK : va_K g.1 vwCl (xg_t g) s) (hP : va_P g.1 vwCl ws H) (hD : va_D A ws) (hS : va_S A s.heap H locs) (hA : ∀ q, s.heap.size ≤ q → A q) (hk1 : cells + 1 = k1) (hk2 : slots + 9 = k2) (h3 : k1 ≤ R.cells) (h4 : k2 ≤ R.slots) (hdg : decode cc pc = .ok (.new 21, 3)) (kk : ∀ (q : Nat) (H1 : Heap), va_P g.1 vwCl (ws ++ [oc_o q 4 [.null, .null, .null, .null, .null, .null, .int (nI 0), .int (nI 0), .int (nI 0)]]) H1 → va_D A (ws ++ [oc_o q 4 [.null, .null, .null, .null, .null, .null, .int (nI 0), .int (nI 0), .int (nI 0)]]) → va_S A s.heap H1 locs → W p l e R s m args below meth c H1 locs k1 k2 Q (F0 m (pc + 3) ls (.ref q :: rest))) : W p l e R s m args below meth c H locs cells slots Q (F0 m pc ls rest) := by
  subst hk1; subst hk2
  exact va_new (C := "StackedRows$Mender") (T := tk_T4) (N := 9) hx hb hts fi_MD tk_y4 tk_o4 hown (hts _ cl_SV_21) (hts _ wk_MD) (hts _ wn_MD) hK hP hD hS hA rfl (fun j hj => by rcases (show j = 0 ∨ j = 1 ∨ j = 2 ∨ j = 3 ∨ j = 4 ∨ j = 5 ∨ j = 6 ∨ j = 7 ∨ j = 8 by omega) with rfl | rfl | rfl | rfl | rfl | rfl | rfl | rfl | rfl <;> rfl) h3 h4 hdg kk
theorem cl_SV_30 : Cond.classLink "StackedRows$Solver" 30 "StackedRows$Tape" ∈ xt_T := xt_in (List.mem_of_getElem? (i := 266) (by decide +kernel)) (by decide +kernel)
theorem nw_SV_30 (hx : p.tables.exec = Jvm.exec) (hb : c.code = cc) (hts : ∀ w ∈ xt_T, w.before args s = true) (hown : s.vm.findClass "StackedRows$Solver" = some m.cls) (hK : va_K g.1 vwCl (xg_t g) s) (hP : va_P g.1 vwCl ws H) (hD : va_D A ws) (hS : va_S A s.heap H locs) (hA : ∀ q, s.heap.size ≤ q → A q) (hk1 : cells + 1 = k1) (hk2 : slots + 2 = k2) (h3 : k1 ≤ R.cells) (h4 : k2 ≤ R.slots) (hdg : decode cc pc = .ok (.new 30, 3)) (kk : ∀ (q : Nat) (H1 : Heap), va_P g.1 vwCl (ws ++ [oc_o q 8 [.null, .int (nI 0)]]) H1 → va_D A (ws ++ [oc_o q 8 [.null, .int (nI 0)]]) → va_S A s.heap H1 locs → W p l e R s m args below meth c H1 locs k1 k2 Q (F0 m (pc + 3) ls (.ref q :: rest))) : W p l e R s m args below meth c H locs cells slots Q (F0 m pc ls rest) := by
  subst hk1; subst hk2
  exact va_new (C := "StackedRows$Tape") (T := tk_T8) (N := 2) hx hb hts fi_TP tk_y8 tk_o8 hown (hts _ cl_SV_30) (hts _ wk_TP) (hts _ wn_TP) hK hP hD hS hA rfl (fun j hj => by rcases (show j = 0 ∨ j = 1 by omega) with rfl | rfl <;> rfl) h3 h4 hdg kk
theorem cl_SV_37 : Cond.classLink "StackedRows$Solver" 37 "StackedRows$Reader" ∈ xt_T := xt_in (List.mem_of_getElem? (i := 268) (by decide +kernel)) (by decide +kernel)
theorem nw_SV_37 (hx : p.tables.exec = Jvm.exec) (hb : c.code = cc) (hts : ∀ w ∈ xt_T, w.before args s = true) (hown : s.vm.findClass "StackedRows$Solver" = some m.cls) (hK : va_K g.1 vwCl (xg_t g) s) (hP : va_P g.1 vwCl ws H) (hD : va_D A ws) (hS : va_S A s.heap H locs) (hA : ∀ q, s.heap.size ≤ q → A q) (hk1 : cells + 1 = k1) (hk2 : slots + 8 = k2) (h3 : k1 ≤ R.cells) (h4 : k2 ≤ R.slots) (hdg : decode cc pc = .ok (.new 37, 3)) (kk : ∀ (q : Nat) (H1 : Heap), va_P g.1 vwCl (ws ++ [oc_o q 5 [.null, .null, .null, .int (nI 0), .int (nI 0), .null, .null, .int (nI 0)]]) H1 → va_D A (ws ++ [oc_o q 5 [.null, .null, .null, .int (nI 0), .int (nI 0), .null, .null, .int (nI 0)]]) → va_S A s.heap H1 locs → W p l e R s m args below meth c H1 locs k1 k2 Q (F0 m (pc + 3) ls (.ref q :: rest))) : W p l e R s m args below meth c H locs cells slots Q (F0 m pc ls rest) := by
  subst hk1; subst hk2
  exact va_new (C := "StackedRows$Reader") (T := tk_T5) (N := 8) hx hb hts fi_RD tk_y5 tk_o5 hown (hts _ cl_SV_37) (hts _ wk_RD) (hts _ wn_RD) hK hP hD hS hA rfl (fun j hj => by rcases (show j = 0 ∨ j = 1 ∨ j = 2 ∨ j = 3 ∨ j = 4 ∨ j = 5 ∨ j = 6 ∨ j = 7 by omega) with rfl | rfl | rfl | rfl | rfl | rfl | rfl | rfl <;> rfl) h3 h4 hdg kk
theorem cl_WR_15 : Cond.classLink "StackedRows$Writer" 15 "StackedRows$Codewords" ∈ xt_T := xt_in (List.mem_of_getElem? (i := 128) (by decide +kernel)) (by decide +kernel)
theorem nw_WR_15 (hx : p.tables.exec = Jvm.exec) (hb : c.code = cc) (hts : ∀ w ∈ xt_T, w.before args s = true) (hown : s.vm.findClass "StackedRows$Writer" = some m.cls) (hK : va_K g.1 vwCl (xg_t g) s) (hP : va_P g.1 vwCl ws H) (hD : va_D A ws) (hS : va_S A s.heap H locs) (hA : ∀ q, s.heap.size ≤ q → A q) (hk1 : cells + 1 = k1) (hk2 : slots + 2 = k2) (h3 : k1 ≤ R.cells) (h4 : k2 ≤ R.slots) (hdg : decode cc pc = .ok (.new 15, 3)) (kk : ∀ (q : Nat) (H1 : Heap), va_P g.1 vwCl (ws ++ [oc_o q 3 [.null, .int (nI 0)]]) H1 → va_D A (ws ++ [oc_o q 3 [.null, .int (nI 0)]]) → va_S A s.heap H1 locs → W p l e R s m args below meth c H1 locs k1 k2 Q (F0 m (pc + 3) ls (.ref q :: rest))) : W p l e R s m args below meth c H locs cells slots Q (F0 m pc ls rest) := by
  subst hk1; subst hk2
  exact va_new (C := "StackedRows$Codewords") (T := tk_T3) (N := 2) hx hb hts fi_CW tk_y3 tk_o3 hown (hts _ cl_WR_15) (hts _ wk_CW) (hts _ wn_CW) hK hP hD hS hA rfl (fun j hj => by rcases (show j = 0 ∨ j = 1 by omega) with rfl | rfl <;> rfl) h3 h4 hdg kk
theorem cl_WR_22 : Cond.classLink "StackedRows$Writer" 22 "StackedRows$TextWriter" ∈ xt_T := xt_in (List.mem_of_getElem? (i := 141) (by decide +kernel)) (by decide +kernel)
theorem nw_WR_22 (hx : p.tables.exec = Jvm.exec) (hb : c.code = cc) (hts : ∀ w ∈ xt_T, w.before args s = true) (hown : s.vm.findClass "StackedRows$Writer" = some m.cls) (hK : va_K g.1 vwCl (xg_t g) s) (hP : va_P g.1 vwCl ws H) (hD : va_D A ws) (hS : va_S A s.heap H locs) (hA : ∀ q, s.heap.size ≤ q → A q) (hk1 : cells + 1 = k1) (hk2 : slots + 3 = k2) (h3 : k1 ≤ R.cells) (h4 : k2 ≤ R.slots) (hdg : decode cc pc = .ok (.new 22, 3)) (kk : ∀ (q : Nat) (H1 : Heap), va_P g.1 vwCl (ws ++ [oc_o q 9 [.null, .null, .int (nI 0)]]) H1 → va_D A (ws ++ [oc_o q 9 [.null, .null, .int (nI 0)]]) → va_S A s.heap H1 locs → W p l e R s m args below meth c H1 locs k1 k2 Q (F0 m (pc + 3) ls (.ref q :: rest))) : W p l e R s m args below meth c H locs cells slots Q (F0 m pc ls rest) := by
  subst hk1; subst hk2
  exact va_new (C := "StackedRows$TextWriter") (T := tk_T9) (N := 3) hx hb hts fi_TW tk_y9 tk_o9 hown (hts _ cl_WR_22) (hts _ wk_TW) (hts _ wn_TW) hK hP hD hS hA rfl (fun j hj => by rcases (show j = 0 ∨ j = 1 ∨ j = 2 by omega) with rfl | rfl | rfl <;> rfl) h3 h4 hdg kk
theorem cl_WR_31 : Cond.classLink "StackedRows$Writer" 31 "StackedRows$BigNumber" ∈ xt_T := xt_in (List.mem_of_getElem? (i := 159) (by decide +kernel)) (by decide +kernel)
theorem nw_WR_31 (hx : p.tables.exec = Jvm.exec) (hb : c.code = cc) (hts : ∀ w ∈ xt_T, w.before args s = true) (hown : s.vm.findClass "StackedRows$Writer" = some m.cls) (hK : va_K g.1 vwCl (xg_t g) s) (hP : va_P g.1 vwCl ws H) (hD : va_D A ws) (hS : va_S A s.heap H locs) (hA : ∀ q, s.heap.size ≤ q → A q) (hk1 : cells + 1 = k1) (hk2 : slots + 2 = k2) (h3 : k1 ≤ R.cells) (h4 : k2 ≤ R.slots) (hdg : decode cc pc = .ok (.new 31, 3)) (kk : ∀ (q : Nat) (H1 : Heap), va_P g.1 vwCl (ws ++ [oc_o q 1 [.int (nI 0), .null]]) H1 → va_D A (ws ++ [oc_o q 1 [.int (nI 0), .null]]) → va_S A s.heap H1 locs → W p l e R s m args below meth c H1 locs k1 k2 Q (F0 m (pc + 3) ls (.ref q :: rest))) : W p l e R s m args below meth c H locs cells slots Q (F0 m pc ls rest) := by
  subst hk1; subst hk2
  exact va_new (C := "StackedRows$BigNumber") (T := tk_T1) (N := 2) hx hb hts fi_BN tk_y1 tk_o1 hown (hts _ cl_WR_31) (hts _ wk_BN) (hts _ wn_BN) hK hP hD hS hA rfl (fun j hj => by rcases (show j = 0 ∨ j = 1 by omega) with rfl | rfl <;> rfl) h3 h4 hdg kk
theorem cl_SR_16 : Cond.classLink "StackedRows" 16 "StackedRows$Writer" ∈ xt_T := xt_in (List.mem_of_getElem? (i := 122) (by decide +kernel)) (by decide +kernel)
theorem nw_SR_16 (hx : p.tables.exec = Jvm.exec) (hb : c.code = cc) (hts : ∀ w ∈ xt_T, w.before args s = true) (hown : s.vm.findClass "StackedRows" = some m.cls) (hK : va_K g.1 vwCl (xg_t g) s) (hP : va_P g.1 vwCl ws H) (hD : va_D A ws) (hS : va_S A s.heap H locs) (hA : ∀ q, s.heap.size ≤ q → A q) (hk1 : cells + 1 = k1) (hk2 : slots + 8 = k2) (h3 : k1 ≤ R.cells) (h4 : k2 ≤ R.slots) (hdg : decode cc pc = .ok (.new 16, 3)) (kk : ∀ (q : Nat) (H1 : Heap), va_P g.1 vwCl (ws ++ [oc_o q 10 [.null, .null, .null, .null, .null, .null, .int (nI 0), .int (nI 0)]]) H1 → va_D A (ws ++ [oc_o q 10 [.null, .null, .null, .null, .null, .null, .int (nI 0), .int (nI 0)]]) → va_S A s.heap H1 locs → W p l e R s m args below meth c H1 locs k1 k2 Q (F0 m (pc + 3) ls (.ref q :: rest))) : W p l e R s m args below meth c H locs cells slots Q (F0 m pc ls rest) := by
  subst hk1; subst hk2
  exact va_new (C := "StackedRows$Writer") (T := tk_T10) (N := 8) hx hb hts fi_WR tk_y10 tk_o10 hown (hts _ cl_SR_16) (hts _ wk_WR) (hts _ wn_WR) hK hP hD hS hA rfl (fun j hj => by rcases (show j = 0 ∨ j = 1 ∨ j = 2 ∨ j = 3 ∨ j = 4 ∨ j = 5 ∨ j = 6 ∨ j = 7 by omega) with rfl | rfl | rfl | rfl | rfl | rfl | rfl | rfl <;> rfl) h3 h4 hdg kk
theorem cl_SR_25 : Cond.classLink "StackedRows" 25 "StackedRows$Checks" ∈ xt_T := xt_in (List.mem_of_getElem? (i := 200) (by decide +kernel)) (by decide +kernel)
theorem nw_SR_25 (hx : p.tables.exec = Jvm.exec) (hb : c.code = cc) (hts : ∀ w ∈ xt_T, w.before args s = true) (hown : s.vm.findClass "StackedRows" = some m.cls) (hK : va_K g.1 vwCl (xg_t g) s) (hP : va_P g.1 vwCl ws H) (hD : va_D A ws) (hS : va_S A s.heap H locs) (hA : ∀ q, s.heap.size ≤ q → A q) (hk1 : cells + 1 = k1) (hk2 : slots + 1 = k2) (h3 : k1 ≤ R.cells) (h4 : k2 ≤ R.slots) (hdg : decode cc pc = .ok (.new 25, 3)) (kk : ∀ (q : Nat) (H1 : Heap), va_P g.1 vwCl (ws ++ [oc_o q 2 [.null]]) H1 → va_D A (ws ++ [oc_o q 2 [.null]]) → va_S A s.heap H1 locs → W p l e R s m args below meth c H1 locs k1 k2 Q (F0 m (pc + 3) ls (.ref q :: rest))) : W p l e R s m args below meth c H locs cells slots Q (F0 m pc ls rest) := by
  subst hk1; subst hk2
  exact va_new (C := "StackedRows$Checks") (T := tk_T2) (N := 1) hx hb hts fi_CK tk_y2 tk_o2 hown (hts _ cl_SR_25) (hts _ wk_CK) (hts _ wn_CK) hK hP hD hS hA rfl (fun j hj => by rcases (show j = 0 by omega) with rfl <;> rfl) h3 h4 hdg kk
theorem cl_SR_32 : Cond.classLink "StackedRows" 32 "StackedRows$Symbol" ∈ xt_T := xt_in (List.mem_of_getElem? (i := 210) (by decide +kernel)) (by decide +kernel)
theorem nw_SR_32 (hx : p.tables.exec = Jvm.exec) (hb : c.code = cc) (hts : ∀ w ∈ xt_T, w.before args s = true) (hown : s.vm.findClass "StackedRows" = some m.cls) (hK : va_K g.1 vwCl (xg_t g) s) (hP : va_P g.1 vwCl ws H) (hD : va_D A ws) (hS : va_S A s.heap H locs) (hA : ∀ q, s.heap.size ≤ q → A q) (hk1 : cells + 1 = k1) (hk2 : slots + 3 = k2) (h3 : k1 ≤ R.cells) (h4 : k2 ≤ R.slots) (hdg : decode cc pc = .ok (.new 32, 3)) (kk : ∀ (q : Nat) (H1 : Heap), va_P g.1 vwCl (ws ++ [oc_o q 7 [.null, .int (nI 0), .int (nI 0)]]) H1 → va_D A (ws ++ [oc_o q 7 [.null, .int (nI 0), .int (nI 0)]]) → va_S A s.heap H1 locs → W p l e R s m args below meth c H1 locs k1 k2 Q (F0 m (pc + 3) ls (.ref q :: rest))) : W p l e R s m args below meth c H locs cells slots Q (F0 m pc ls rest) := by
  subst hk1; subst hk2
  exact va_new (C := "StackedRows$Symbol") (T := tk_T7) (N := 3) hx hb hts fi_SY tk_y7 tk_o7 hown (hts _ cl_SR_32) (hts _ wk_SY) (hts _ wn_SY) hK hP hD hS hA rfl (fun j hj => by rcases (show j = 0 ∨ j = 1 ∨ j = 2 by omega) with rfl | rfl | rfl <;> rfl) h3 h4 hdg kk
theorem cl_SR_43 : Cond.classLink "StackedRows" 43 "StackedRows$Solver" ∈ xt_T := xt_in (List.mem_of_getElem? (i := 226) (by decide +kernel)) (by decide +kernel)
theorem nw_SR_43 (hx : p.tables.exec = Jvm.exec) (hb : c.code = cc) (hts : ∀ w ∈ xt_T, w.before args s = true) (hown : s.vm.findClass "StackedRows" = some m.cls) (hK : va_K g.1 vwCl (xg_t g) s) (hP : va_P g.1 vwCl ws H) (hD : va_D A ws) (hS : va_S A s.heap H locs) (hA : ∀ q, s.heap.size ≤ q → A q) (hk1 : cells + 1 = k1) (hk2 : slots + 9 = k2) (h3 : k1 ≤ R.cells) (h4 : k2 ≤ R.slots) (hdg : decode cc pc = .ok (.new 43, 3)) (kk : ∀ (q : Nat) (H1 : Heap), va_P g.1 vwCl (ws ++ [oc_o q 6 [.null, .null, .null, .null, .null, .null, .int (nI 0), .int (nI 0), .int (nI 0)]]) H1 → va_D A (ws ++ [oc_o q 6 [.null, .null, .null, .null, .null, .null, .int (nI 0), .int (nI 0), .int (nI 0)]]) → va_S A s.heap H1 locs → W p l e R s m args below meth c H1 locs k1 k2 Q (F0 m (pc + 3) ls (.ref q :: rest))) : W p l e R s m args below meth c H locs cells slots Q (F0 m pc ls rest) := by
  subst hk1; subst hk2
  exact va_new (C := "StackedRows$Solver") (T := tk_T6) (N := 9) hx hb hts fi_SV tk_y6 tk_o6 hown (hts _ cl_SR_43) (hts _ wk_SV) (hts _ wn_SV) hK hP hD hS hA rfl (fun j hj => by rcases (show j = 0 ∨ j = 1 ∨ j = 2 ∨ j = 3 ∨ j = 4 ∨ j = 5 ∨ j = 6 ∨ j = 7 ∨ j = 8 by omega) with rfl | rfl | rfl | rfl | rfl | rfl | rfl | rfl | rfl <;> rfl) h3 h4 hdg kk
theorem cl_SR_9 : Cond.classLink "StackedRows" 9 "StackedRows$Tape" ∈ xt_T := xt_in (List.mem_of_getElem? (i := 108) (by decide +kernel)) (by decide +kernel)
theorem nw_SR_9 (hx : p.tables.exec = Jvm.exec) (hb : c.code = cc) (hts : ∀ w ∈ xt_T, w.before args s = true) (hown : s.vm.findClass "StackedRows" = some m.cls) (hK : va_K g.1 vwCl (xg_t g) s) (hP : va_P g.1 vwCl ws H) (hD : va_D A ws) (hS : va_S A s.heap H locs) (hA : ∀ q, s.heap.size ≤ q → A q) (hk1 : cells + 1 = k1) (hk2 : slots + 2 = k2) (h3 : k1 ≤ R.cells) (h4 : k2 ≤ R.slots) (hdg : decode cc pc = .ok (.new 9, 3)) (kk : ∀ (q : Nat) (H1 : Heap), va_P g.1 vwCl (ws ++ [oc_o q 8 [.null, .int (nI 0)]]) H1 → va_D A (ws ++ [oc_o q 8 [.null, .int (nI 0)]]) → va_S A s.heap H1 locs → W p l e R s m args below meth c H1 locs k1 k2 Q (F0 m (pc + 3) ls (.ref q :: rest))) : W p l e R s m args below meth c H locs cells slots Q (F0 m pc ls rest) := by
  subst hk1; subst hk2
  exact va_new (C := "StackedRows$Tape") (T := tk_T8) (N := 2) hx hb hts fi_TP tk_y8 tk_o8 hown (hts _ cl_SR_9) (hts _ wk_TP) (hts _ wn_TP) hK hP hD hS hA rfl (fun j hj => by rcases (show j = 0 ∨ j = 1 by omega) with rfl | rfl <;> rfl) h3 h4 hdg kk
theorem cl_LW_58 : Cond.classLink "StackedRowsLaw" 58 "StackedRowsModel" ∈ xt_T := xt_in (List.mem_of_getElem? (i := 1059) (by decide +kernel)) (by decide +kernel)
theorem nw_LW_58 (hx : p.tables.exec = Jvm.exec) (hb : c.code = cc) (hts : ∀ w ∈ xt_T, w.before args s = true) (hown : s.vm.findClass "StackedRowsLaw" = some m.cls) (hK : va_K g.1 vwCl (xg_t g) s) (hP : va_P g.1 vwCl ws H) (hD : va_D A ws) (hS : va_S A s.heap H locs) (hA : ∀ q, s.heap.size ≤ q → A q) (hk1 : cells + 1 = k1) (hk2 : slots + 32 = k2) (h3 : k1 ≤ R.cells) (h4 : k2 ≤ R.slots) (hdg : decode cc pc = .ok (.new 58, 3)) (kk : ∀ (q : Nat) (H1 : Heap), va_P g.1 vwCl (ws ++ [oc_o q 11 [.int (nI 0), .null, .int (nI 0), .null, .int (nI 0), .int (nI 0), .int (nI 0), .null, .null, .int (nI 0), .int (nI 0), .null, .int (nI 0), .int (nI 0), .int (nI 0), .int (nI 0), .null, .null, .null, .null, .null, .null, .null, .null, .null, .null, .null, .null, .null, .int (nI 0), .null, .int (nI 0)]]) H1 → va_D A (ws ++ [oc_o q 11 [.int (nI 0), .null, .int (nI 0), .null, .int (nI 0), .int (nI 0), .int (nI 0), .null, .null, .int (nI 0), .int (nI 0), .null, .int (nI 0), .int (nI 0), .int (nI 0), .int (nI 0), .null, .null, .null, .null, .null, .null, .null, .null, .null, .null, .null, .null, .null, .int (nI 0), .null, .int (nI 0)]]) → va_S A s.heap H1 locs → W p l e R s m args below meth c H1 locs k1 k2 Q (F0 m (pc + 3) ls (.ref q :: rest))) : W p l e R s m args below meth c H locs cells slots Q (F0 m pc ls rest) := by
  subst hk1; subst hk2
  exact va_new (C := "StackedRowsModel") (T := tk_T11) (N := 32) hx hb hts fi_MO tk_y11 tk_o11 hown (hts _ cl_LW_58) (hts _ wk_MO) (hts _ wn_MO) hK hP hD hS hA rfl (fun j hj => by rcases (show j = 0 ∨ j = 1 ∨ j = 2 ∨ j = 3 ∨ j = 4 ∨ j = 5 ∨ j = 6 ∨ j = 7 ∨ j = 8 ∨ j = 9 ∨ j = 10 ∨ j = 11 ∨ j = 12 ∨ j = 13 ∨ j = 14 ∨ j = 15 ∨ j = 16 ∨ j = 17 ∨ j = 18 ∨ j = 19 ∨ j = 20 ∨ j = 21 ∨ j = 22 ∨ j = 23 ∨ j = 24 ∨ j = 25 ∨ j = 26 ∨ j = 27 ∨ j = 28 ∨ j = 29 ∨ j = 30 ∨ j = 31 by omega) with rfl | rfl | rfl | rfl | rfl | rfl | rfl | rfl | rfl | rfl | rfl | rfl | rfl | rfl | rfl | rfl | rfl | rfl | rfl | rfl | rfl | rfl | rfl | rfl | rfl | rfl | rfl | rfl | rfl | rfl | rfl | rfl <;> rfl) h3 h4 hdg kk
theorem cl_LW_8 : Cond.classLink "StackedRowsLaw" 8 "StackedRows" ∈ xt_T := xt_in (List.mem_of_getElem? (i := 100) (by decide +kernel)) (by decide +kernel)
theorem nw_LW_8 (hx : p.tables.exec = Jvm.exec) (hb : c.code = cc) (hts : ∀ w ∈ xt_T, w.before args s = true) (hown : s.vm.findClass "StackedRowsLaw" = some m.cls) (hK : va_K g.1 vwCl (xg_t g) s) (hP : va_P g.1 vwCl ws H) (hD : va_D A ws) (hS : va_S A s.heap H locs) (hA : ∀ q, s.heap.size ≤ q → A q) (hk1 : cells + 1 = k1) (hk2 : slots + 7 = k2) (h3 : k1 ≤ R.cells) (h4 : k2 ≤ R.slots) (hdg : decode cc pc = .ok (.new 8, 3)) (kk : ∀ (q : Nat) (H1 : Heap), va_P g.1 vwCl (ws ++ [oc_o q 0 [.null, .null, .null, .null, .null, .null, .null]]) H1 → va_D A (ws ++ [oc_o q 0 [.null, .null, .null, .null, .null, .null, .null]]) → va_S A s.heap H1 locs → W p l e R s m args below meth c H1 locs k1 k2 Q (F0 m (pc + 3) ls (.ref q :: rest))) : W p l e R s m args below meth c H locs cells slots Q (F0 m pc ls rest) := by
  subst hk1; subst hk2
  exact va_new (C := "StackedRows") (T := tk_T0) (N := 7) hx hb hts fi_SR tk_y0 tk_o0 hown (hts _ cl_LW_8) (hts _ wk_SR) (hts _ wn_SR) hK hP hD hS hA rfl (fun j hj => by rcases (show j = 0 ∨ j = 1 ∨ j = 2 ∨ j = 3 ∨ j = 4 ∨ j = 5 ∨ j = 6 by omega) with rfl | rfl | rfl | rfl | rfl | rfl | rfl <;> rfl) h3 h4 hdg kk
theorem woi : Cond.instanceMethod Lib.objectInit ∈ xt_T := xt_in (List.mem_of_getElem? (i := 106) (by decide +kernel)) (by decide +kernel)
theorem woc : Cond.code Lib.objectInit ⟨#[0xb1]⟩ 1 none ∈ xt_T := xt_in (List.mem_of_getElem? (i := 107) (by decide +kernel)) (by decide +kernel)
theorem ml_BN_1 : Cond.methodLink "StackedRows$BigNumber" 1 Lib.objectInit ∈ xt_T := xt_in (List.mem_of_getElem? (i := 164) (by decide +kernel)) (by decide +kernel)
theorem oi_BN_1 (hx : p.tables.exec = Jvm.exec) (hb : c.code = cc) (hts : ∀ w ∈ xt_T, w.before args s = true) (hown : s.vm.findClass "StackedRows$BigNumber" = some m.cls) (hml : c.maxLocals = nL) (hsz : ls.size = nL) (hf : 1 ≤ R.frames) (hlo : (rest.map fun v => v.category).sum + 12 ≤ R.locals) (hd : decode cc pc = .ok (.invokespecial 1, 3)) (kk : W p l e R s m args below meth c H locs cells slots Q (F0 m (pc + 3) ls rest)) : W p l e R s m args below meth c H locs cells slots Q (F0 m pc ls (.ref a :: rest)) :=
  xo_init hx hb hown (hts _ ml_BN_1) (hts _ woi) (hts _ woc) hml hsz hf hlo hd kk
theorem ml_CK_3 : Cond.methodLink "StackedRows$Checks" 3 Lib.objectInit ∈ xt_T := xt_in (List.mem_of_getElem? (i := 205) (by decide +kernel)) (by decide +kernel)
theorem oi_CK_3 (hx : p.tables.exec = Jvm.exec) (hb : c.code = cc) (hts : ∀ w ∈ xt_T, w.before args s = true) (hown : s.vm.findClass "StackedRows$Checks" = some m.cls) (hml : c.maxLocals = nL) (hsz : ls.size = nL) (hf : 1 ≤ R.frames) (hlo : (rest.map fun v => v.category).sum + 12 ≤ R.locals) (hd : decode cc pc = .ok (.invokespecial 3, 3)) (kk : W p l e R s m args below meth c H locs cells slots Q (F0 m (pc + 3) ls rest)) : W p l e R s m args below meth c H locs cells slots Q (F0 m pc ls (.ref a :: rest)) :=
  xo_init hx hb hown (hts _ ml_CK_3) (hts _ woi) (hts _ woc) hml hsz hf hlo hd kk
theorem ml_CW_3 : Cond.methodLink "StackedRows$Codewords" 3 Lib.objectInit ∈ xt_T := xt_in (List.mem_of_getElem? (i := 133) (by decide +kernel)) (by decide +kernel)
theorem oi_CW_3 (hx : p.tables.exec = Jvm.exec) (hb : c.code = cc) (hts : ∀ w ∈ xt_T, w.before args s = true) (hown : s.vm.findClass "StackedRows$Codewords" = some m.cls) (hml : c.maxLocals = nL) (hsz : ls.size = nL) (hf : 1 ≤ R.frames) (hlo : (rest.map fun v => v.category).sum + 12 ≤ R.locals) (hd : decode cc pc = .ok (.invokespecial 3, 3)) (kk : W p l e R s m args below meth c H locs cells slots Q (F0 m (pc + 3) ls rest)) : W p l e R s m args below meth c H locs cells slots Q (F0 m pc ls (.ref a :: rest)) :=
  xo_init hx hb hown (hts _ ml_CW_3) (hts _ woi) (hts _ woc) hml hsz hf hlo hd kk
theorem ml_MD_3 : Cond.methodLink "StackedRows$Mender" 3 Lib.objectInit ∈ xt_T := xt_in (List.mem_of_getElem? (i := 237) (by decide +kernel)) (by decide +kernel)
theorem oi_MD_3 (hx : p.tables.exec = Jvm.exec) (hb : c.code = cc) (hts : ∀ w ∈ xt_T, w.before args s = true) (hown : s.vm.findClass "StackedRows$Mender" = some m.cls) (hml : c.maxLocals = nL) (hsz : ls.size = nL) (hf : 1 ≤ R.frames) (hlo : (rest.map fun v => v.category).sum + 12 ≤ R.locals) (hd : decode cc pc = .ok (.invokespecial 3, 3)) (kk : W p l e R s m args below meth c H locs cells slots Q (F0 m (pc + 3) ls rest)) : W p l e R s m args below meth c H locs cells slots Q (F0 m pc ls (.ref a :: rest)) :=
  xo_init hx hb hown (hts _ ml_MD_3) (hts _ woi) (hts _ woc) hml hsz hf hlo hd kk
theorem ml_RD_3 : Cond.methodLink "StackedRows$Reader" 3 Lib.objectInit ∈ xt_T := xt_in (List.mem_of_getElem? (i := 273) (by decide +kernel)) (by decide +kernel)
theorem oi_RD_3 (hx : p.tables.exec = Jvm.exec) (hb : c.code = cc) (hts : ∀ w ∈ xt_T, w.before args s = true) (hown : s.vm.findClass "StackedRows$Reader" = some m.cls) (hml : c.maxLocals = nL) (hsz : ls.size = nL) (hf : 1 ≤ R.frames) (hlo : (rest.map fun v => v.category).sum + 12 ≤ R.locals) (hd : decode cc pc = .ok (.invokespecial 3, 3)) (kk : W p l e R s m args below meth c H locs cells slots Q (F0 m (pc + 3) ls rest)) : W p l e R s m args below meth c H locs cells slots Q (F0 m pc ls (.ref a :: rest)) :=
  xo_init hx hb hown (hts _ ml_RD_3) (hts _ woi) (hts _ woc) hml hsz hf hlo hd kk
theorem ml_SV_3 : Cond.methodLink "StackedRows$Solver" 3 Lib.objectInit ∈ xt_T := xt_in (List.mem_of_getElem? (i := 231) (by decide +kernel)) (by decide +kernel)
theorem oi_SV_3 (hx : p.tables.exec = Jvm.exec) (hb : c.code = cc) (hts : ∀ w ∈ xt_T, w.before args s = true) (hown : s.vm.findClass "StackedRows$Solver" = some m.cls) (hml : c.maxLocals = nL) (hsz : ls.size = nL) (hf : 1 ≤ R.frames) (hlo : (rest.map fun v => v.category).sum + 12 ≤ R.locals) (hd : decode cc pc = .ok (.invokespecial 3, 3)) (kk : W p l e R s m args below meth c H locs cells slots Q (F0 m (pc + 3) ls rest)) : W p l e R s m args below meth c H locs cells slots Q (F0 m pc ls (.ref a :: rest)) :=
  xo_init hx hb hown (hts _ ml_SV_3) (hts _ woi) (hts _ woc) hml hsz hf hlo hd kk
theorem ml_SY_3 : Cond.methodLink "StackedRows$Symbol" 3 Lib.objectInit ∈ xt_T := xt_in (List.mem_of_getElem? (i := 215) (by decide +kernel)) (by decide +kernel)
theorem oi_SY_3 (hx : p.tables.exec = Jvm.exec) (hb : c.code = cc) (hts : ∀ w ∈ xt_T, w.before args s = true) (hown : s.vm.findClass "StackedRows$Symbol" = some m.cls) (hml : c.maxLocals = nL) (hsz : ls.size = nL) (hf : 1 ≤ R.frames) (hlo : (rest.map fun v => v.category).sum + 12 ≤ R.locals) (hd : decode cc pc = .ok (.invokespecial 3, 3)) (kk : W p l e R s m args below meth c H locs cells slots Q (F0 m (pc + 3) ls rest)) : W p l e R s m args below meth c H locs cells slots Q (F0 m pc ls (.ref a :: rest)) :=
  xo_init hx hb hown (hts _ ml_SY_3) (hts _ woi) (hts _ woc) hml hsz hf hlo hd kk
theorem ml_TP_3 : Cond.methodLink "StackedRows$Tape" 3 Lib.objectInit ∈ xt_T := xt_in (List.mem_of_getElem? (i := 113) (by decide +kernel)) (by decide +kernel)
theorem oi_TP_3 (hx : p.tables.exec = Jvm.exec) (hb : c.code = cc) (hts : ∀ w ∈ xt_T, w.before args s = true) (hown : s.vm.findClass "StackedRows$Tape" = some m.cls) (hml : c.maxLocals = nL) (hsz : ls.size = nL) (hf : 1 ≤ R.frames) (hlo : (rest.map fun v => v.category).sum + 12 ≤ R.locals) (hd : decode cc pc = .ok (.invokespecial 3, 3)) (kk : W p l e R s m args below meth c H locs cells slots Q (F0 m (pc + 3) ls rest)) : W p l e R s m args below meth c H locs cells slots Q (F0 m pc ls (.ref a :: rest)) :=
  xo_init hx hb hown (hts _ ml_TP_3) (hts _ woi) (hts _ woc) hml hsz hf hlo hd kk
theorem ml_TW_3 : Cond.methodLink "StackedRows$TextWriter" 3 Lib.objectInit ∈ xt_T := xt_in (List.mem_of_getElem? (i := 146) (by decide +kernel)) (by decide +kernel)
theorem oi_TW_3 (hx : p.tables.exec = Jvm.exec) (hb : c.code = cc) (hts : ∀ w ∈ xt_T, w.before args s = true) (hown : s.vm.findClass "StackedRows$TextWriter" = some m.cls) (hml : c.maxLocals = nL) (hsz : ls.size = nL) (hf : 1 ≤ R.frames) (hlo : (rest.map fun v => v.category).sum + 12 ≤ R.locals) (hd : decode cc pc = .ok (.invokespecial 3, 3)) (kk : W p l e R s m args below meth c H locs cells slots Q (F0 m (pc + 3) ls rest)) : W p l e R s m args below meth c H locs cells slots Q (F0 m pc ls (.ref a :: rest)) :=
  xo_init hx hb hown (hts _ ml_TW_3) (hts _ woi) (hts _ woc) hml hsz hf hlo hd kk
theorem ml_WR_3 : Cond.methodLink "StackedRows$Writer" 3 Lib.objectInit ∈ xt_T := xt_in (List.mem_of_getElem? (i := 127) (by decide +kernel)) (by decide +kernel)
theorem oi_WR_3 (hx : p.tables.exec = Jvm.exec) (hb : c.code = cc) (hts : ∀ w ∈ xt_T, w.before args s = true) (hown : s.vm.findClass "StackedRows$Writer" = some m.cls) (hml : c.maxLocals = nL) (hsz : ls.size = nL) (hf : 1 ≤ R.frames) (hlo : (rest.map fun v => v.category).sum + 12 ≤ R.locals) (hd : decode cc pc = .ok (.invokespecial 3, 3)) (kk : W p l e R s m args below meth c H locs cells slots Q (F0 m (pc + 3) ls rest)) : W p l e R s m args below meth c H locs cells slots Q (F0 m pc ls (.ref a :: rest)) :=
  xo_init hx hb hown (hts _ ml_WR_3) (hts _ woi) (hts _ woc) hml hsz hf hlo hd kk
theorem ml_SR_3 : Cond.methodLink "StackedRows" 3 Lib.objectInit ∈ xt_T := xt_in (List.mem_of_getElem? (i := 105) (by decide +kernel)) (by decide +kernel)
theorem oi_SR_3 (hx : p.tables.exec = Jvm.exec) (hb : c.code = cc) (hts : ∀ w ∈ xt_T, w.before args s = true) (hown : s.vm.findClass "StackedRows" = some m.cls) (hml : c.maxLocals = nL) (hsz : ls.size = nL) (hf : 1 ≤ R.frames) (hlo : (rest.map fun v => v.category).sum + 12 ≤ R.locals) (hd : decode cc pc = .ok (.invokespecial 3, 3)) (kk : W p l e R s m args below meth c H locs cells slots Q (F0 m (pc + 3) ls rest)) : W p l e R s m args below meth c H locs cells slots Q (F0 m pc ls (.ref a :: rest)) :=
  xo_init hx hb hown (hts _ ml_SR_3) (hts _ woi) (hts _ woc) hml hsz hf hlo hd kk
theorem ml_MO_1 : Cond.methodLink "StackedRowsModel" 1 Lib.objectInit ∈ xt_T := xt_in (List.mem_of_getElem? (i := 1064) (by decide +kernel)) (by decide +kernel)
theorem oi_MO_1 (hx : p.tables.exec = Jvm.exec) (hb : c.code = cc) (hts : ∀ w ∈ xt_T, w.before args s = true) (hown : s.vm.findClass "StackedRowsModel" = some m.cls) (hml : c.maxLocals = nL) (hsz : ls.size = nL) (hf : 1 ≤ R.frames) (hlo : (rest.map fun v => v.category).sum + 12 ≤ R.locals) (hd : decode cc pc = .ok (.invokespecial 1, 3)) (kk : W p l e R s m args below meth c H locs cells slots Q (F0 m (pc + 3) ls rest)) : W p l e R s m args below meth c H locs cells slots Q (F0 m pc ls (.ref a :: rest)) :=
  xo_init hx hb hown (hts _ ml_MO_1) (hts _ woi) (hts _ woc) hml hsz hf hlo hd kk
theorem fl_BN_13 : Cond.fieldLink "StackedRows$BigNumber" 13 "StackedRows$BigNumber" "base" "I" ∈ xt_T := xt_in (List.mem_of_getElem? (i := 168) (by decide +kernel)) (by decide +kernel)
theorem pf_BN_13 (hin : meth.name = "<init>") (hx : p.tables.exec = Jvm.exec) (hb : c.code = cc) (hts : ∀ w ∈ xt_T, w.before args s = true) (hown : s.vm.findClass "StackedRows$BigNumber" = some m.cls) (hK : va_K g.1 vwCl (xg_t g) s) (hP : va_P g.1 vwCl ws H) (hD : va_D A ws) (hS : va_S A s.heap H locs) (q0 : Nat) {fs : List Value} (he : ws[q0]? = some (oc_o a 1 fs)) {v : Value} (hn : narrow (.int) v = v) (hfit : fits (.int) v = true) (hl : 0 < fs.length) (hdg : decode cc pc = .ok (.putfield 13, 3)) (kk : ∀ (H1 : Heap) (locs1 : List Loc), va_P g.1 vwCl (ws.set q0 (oc_o a 1 (fs.set 0 v))) H1 → va_D A (ws.set q0 (oc_o a 1 (fs.set 0 v))) → va_S A s.heap H1 locs1 → W p l e R s m args below meth c H1 locs1 cells slots Q (F0 m (pc + 3) ls rest)) : W p l e R s m args below meth c H locs cells slots Q (F0 m pc ls (v :: .ref a :: rest)) :=
  va_putF (C := "StackedRows$BigNumber") (T := tk_T1) (N := 2) hx hb hts fi_BN tk_y1 tk_o1 tk_n1 hown hK hP hD hS q0 he rfl 0 (by decide) (hts _ fl_BN_13) (fun _ h9 => h9) rfl hin rfl (by decide +kernel) hn hfit hl hdg kk
theorem fl_BN_19 : Cond.fieldLink "StackedRows$BigNumber" 19 "StackedRows$BigNumber" "cells" "[I" ∈ xt_T := xt_in (List.mem_of_getElem? (i := 169) (by decide +kernel)) (by decide +kernel)
theorem pf_BN_19 (hin : meth.name = "<init>") (hx : p.tables.exec = Jvm.exec) (hb : c.code = cc) (hts : ∀ w ∈ xt_T, w.before args s = true) (hown : s.vm.findClass "StackedRows$BigNumber" = some m.cls) (hK : va_K g.1 vwCl (xg_t g) s) (hP : va_P g.1 vwCl ws H) (hD : va_D A ws) (hS : va_S A s.heap H locs) (q0 : Nat) {fs : List Value} (he : ws[q0]? = some (oc_o a 1 fs)) {v : Value} (hn : narrow (.array .int) v = v) (hfit : fits (.array .int) v = true) (hl : 1 < fs.length) (hdg : decode cc pc = .ok (.putfield 19, 3)) (kk : ∀ (H1 : Heap) (locs1 : List Loc), va_P g.1 vwCl (ws.set q0 (oc_o a 1 (fs.set 1 v))) H1 → va_D A (ws.set q0 (oc_o a 1 (fs.set 1 v))) → va_S A s.heap H1 locs1 → W p l e R s m args below meth c H1 locs1 cells slots Q (F0 m (pc + 3) ls rest)) : W p l e R s m args below meth c H locs cells slots Q (F0 m pc ls (v :: .ref a :: rest)) :=
  va_putF (C := "StackedRows$BigNumber") (T := tk_T1) (N := 2) hx hb hts fi_BN tk_y1 tk_o1 tk_n1 hown hK hP hD hS q0 he rfl 1 (by decide) (hts _ fl_BN_19) (fun _ h9 => h9) rfl hin rfl (by decide +kernel) hn hfit hl hdg kk
theorem pf_CK_9 (hin : meth.name = "<init>") (hx : p.tables.exec = Jvm.exec) (hb : c.code = cc) (hts : ∀ w ∈ xt_T, w.before args s = true) (hown : s.vm.findClass "StackedRows$Checks" = some m.cls) (hK : va_K g.1 vwCl (xg_t g) s) (hP : va_P g.1 vwCl ws H) (hD : va_D A ws) (hS : va_S A s.heap H locs) (q0 : Nat) {fs : List Value} (he : ws[q0]? = some (oc_o a 2 fs)) {v : Value} (hn : narrow (.array .int) v = v) (hfit : fits (.array .int) v = true) (hl : 0 < fs.length) (hdg : decode cc pc = .ok (.putfield 9, 3)) (kk : ∀ (H1 : Heap) (locs1 : List Loc), va_P g.1 vwCl (ws.set q0 (oc_o a 2 (fs.set 0 v))) H1 → va_D A (ws.set q0 (oc_o a 2 (fs.set 0 v))) → va_S A s.heap H1 locs1 → W p l e R s m args below meth c H1 locs1 cells slots Q (F0 m (pc + 3) ls rest)) : W p l e R s m args below meth c H locs cells slots Q (F0 m pc ls (v :: .ref a :: rest)) :=
  va_putF (C := "StackedRows$Checks") (T := tk_T2) (N := 1) hx hb hts fi_CK tk_y2 tk_o2 tk_n2 hown hK hP hD hS q0 he rfl 0 (by decide) (hts _ fl_CK_9) (fun _ h9 => h9) rfl hin rfl (by decide +kernel) hn hfit hl hdg kk
theorem pf_CW_15 (hx : p.tables.exec = Jvm.exec) (hb : c.code = cc) (hts : ∀ w ∈ xt_T, w.before args s = true) (hown : s.vm.findClass "StackedRows$Codewords" = some m.cls) (hK : va_K g.1 vwCl (xg_t g) s) (hP : va_P g.1 vwCl ws H) (hD : va_D A ws) (hS : va_S A s.heap H locs) (q0 : Nat) {fs : List Value} (he : ws[q0]? = some (oc_o a 3 fs)) {v : Value} (hn : narrow (.int) v = v) (hfit : fits (.int) v = true) (hl : 1 < fs.length) (hdg : decode cc pc = .ok (.putfield 15, 3)) (kk : ∀ (H1 : Heap) (locs1 : List Loc), va_P g.1 vwCl (ws.set q0 (oc_o a 3 (fs.set 1 v))) H1 → va_D A (ws.set q0 (oc_o a 3 (fs.set 1 v))) → va_S A s.heap H1 locs1 → W p l e R s m args below meth c H1 locs1 cells slots Q (F0 m (pc + 3) ls rest)) : W p l e R s m args below meth c H locs cells slots Q (F0 m pc ls (v :: .ref a :: rest)) :=
  va_put (C := "StackedRows$Codewords") (T := tk_T3) (N := 2) hx hb hts fi_CW tk_y3 tk_o3 tk_n3 hown hK hP hD hS q0 he rfl 1 (by decide) (hts _ fl_CW_15) (fun _ h9 => h9) rfl (by decide +kernel) hn hfit hl hdg kk
theorem fl_CW_9 : Cond.fieldLink "StackedRows$Codewords" 9 "StackedRows$Codewords" "cells" "[I" ∈ xt_T := xt_in (List.mem_of_getElem? (i := 134) (by decide +kernel)) (by decide +kernel)
theorem pf_CW_9 (hin : meth.name = "<init>") (hx : p.tables.exec = Jvm.exec) (hb : c.code = cc) (hts : ∀ w ∈ xt_T, w.before args s = true) (hown : s.vm.findClass "StackedRows$Codewords" = some m.cls) (hK : va_K g.1 vwCl (xg_t g) s) (hP : va_P g.1 vwCl ws H) (hD : va_D A ws) (hS : va_S A s.heap H locs) (q0 : Nat) {fs : List Value} (he : ws[q0]? = some (oc_o a 3 fs)) {v : Value} (hn : narrow (.array .int) v = v) (hfit : fits (.array .int) v = true) (hl : 0 < fs.length) (hdg : decode cc pc = .ok (.putfield 9, 3)) (kk : ∀ (H1 : Heap) (locs1 : List Loc), va_P g.1 vwCl (ws.set q0 (oc_o a 3 (fs.set 0 v))) H1 → va_D A (ws.set q0 (oc_o a 3 (fs.set 0 v))) → va_S A s.heap H1 locs1 → W p l e R s m args below meth c H1 locs1 cells slots Q (F0 m (pc + 3) ls rest)) : W p l e R s m args below meth c H locs cells slots Q (F0 m pc ls (v :: .ref a :: rest)) :=
  va_putF (C := "StackedRows$Codewords") (T := tk_T3) (N := 2) hx hb hts fi_CW tk_y3 tk_o3 tk_n3 hown hK hP hD hS q0 he rfl 0 (by decide) (hts _ fl_CW_9) (fun _ h9 => h9) rfl hin rfl (by decide +kernel) hn hfit hl hdg kk
theorem fl_MD_15 : Cond.fieldLink "StackedRows$Mender" 15 "StackedRows$Mender" "sums" "[I" ∈ xt_T := xt_in (List.mem_of_getElem? (i := 239) (by decide +kernel)) (by decide +kernel)
theorem pf_MD_15 (hin : meth.name = "<init>") (hx : p.tables.exec = Jvm.exec) (hb : c.code = cc) (hts : ∀ w ∈ xt_T, w.before args s = true) (hown : s.vm.findClass "StackedRows$Mender" = some m.cls) (hK : va_K g.1 vwCl (xg_t g) s) (hP : va_P g.1 vwCl ws H) (hD : va_D A ws) (hS : va_S A s.heap H locs) (q0 : Nat) {fs : List Value} (he : ws[q0]? = some (oc_o a 4 fs)) {v : Value} (hn : narrow (.array .int) v = v) (hfit : fits (.array .int) v = true) (hl : 1 < fs.length) (hdg : decode cc pc = .ok (.putfield 15, 3)) (kk : ∀ (H1 : Heap) (locs1 : List Loc), va_P g.1 vwCl (ws.set q0 (oc_o a 4 (fs.set 1 v))) H1 → va_D A (ws.set q0 (oc_o a 4 (fs.set 1 v))) → va_S A s.heap H1 locs1 → W p l e R s m args below meth c H1 locs1 cells slots Q (F0 m (pc + 3) ls rest)) : W p l e R s m args below meth c H locs cells slots Q (F0 m pc ls (v :: .ref a :: rest)) :=
  va_putF (C := "StackedRows$Mender") (T := tk_T4) (N := 9) hx hb hts fi_MD tk_y4 tk_o4 tk_n4 hown hK hP hD hS q0 he rfl 1 (by decide) (hts _ fl_MD_15) (fun _ h9 => h9) rfl hin rfl (by decide +kernel) hn hfit hl hdg kk
theorem fl_MD_18 : Cond.fieldLink "StackedRows$Mender" 18 "StackedRows$Mender" "locator" "[I" ∈ xt_T := xt_in (List.mem_of_getElem? (i := 240) (by decide +kernel)) (by decide +kernel)
theorem pf_MD_18 (hin : meth.name = "<init>") (hx : p.tables.exec = Jvm.exec) (hb : c.code = cc) (hts : ∀ w ∈ xt_T, w.before args s = true) (hown : s.vm.findClass "StackedRows$Mender" = some m.cls) (hK : va_K g.1 vwCl (xg_t g) s) (hP : va_P g.1 vwCl ws H) (hD : va_D A ws) (hS : va_S A s.heap H locs) (q0 : Nat) {fs : List Value} (he : ws[q0]? = some (oc_o a 4 fs)) {v : Value} (hn : narrow (.array .int) v = v) (hfit : fits (.array .int) v = true) (hl : 2 < fs.length) (hdg : decode cc pc = .ok (.putfield 18, 3)) (kk : ∀ (H1 : Heap) (locs1 : List Loc), va_P g.1 vwCl (ws.set q0 (oc_o a 4 (fs.set 2 v))) H1 → va_D A (ws.set q0 (oc_o a 4 (fs.set 2 v))) → va_S A s.heap H1 locs1 → W p l e R s m args below meth c H1 locs1 cells slots Q (F0 m (pc + 3) ls rest)) : W p l e R s m args below meth c H locs cells slots Q (F0 m pc ls (v :: .ref a :: rest)) :=
  va_putF (C := "StackedRows$Mender") (T := tk_T4) (N := 9) hx hb hts fi_MD tk_y4 tk_o4 tk_n4 hown hK hP hD hS q0 he rfl 2 (by decide) (hts _ fl_MD_18) (fun _ h9 => h9) rfl hin rfl (by decide +kernel) hn hfit hl hdg kk
theorem fl_MD_21 : Cond.fieldLink "StackedRows$Mender" 21 "StackedRows$Mender" "earlier" "[I" ∈ xt_T := xt_in (List.mem_of_getElem? (i := 241) (by decide +kernel)) (by decide +kernel)
theorem pf_MD_21 (hin : meth.name = "<init>") (hx : p.tables.exec = Jvm.exec) (hb : c.code = cc) (hts : ∀ w ∈ xt_T, w.before args s = true) (hown : s.vm.findClass "StackedRows$Mender" = some m.cls) (hK : va_K g.1 vwCl (xg_t g) s) (hP : va_P g.1 vwCl ws H) (hD : va_D A ws) (hS : va_S A s.heap H locs) (q0 : Nat) {fs : List Value} (he : ws[q0]? = some (oc_o a 4 fs)) {v : Value} (hn : narrow (.array .int) v = v) (hfit : fits (.array .int) v = true) (hl : 3 < fs.length) (hdg : decode cc pc = .ok (.putfield 21, 3)) (kk : ∀ (H1 : Heap) (locs1 : List Loc), va_P g.1 vwCl (ws.set q0 (oc_o a 4 (fs.set 3 v))) H1 → va_D A (ws.set q0 (oc_o a 4 (fs.set 3 v))) → va_S A s.heap H1 locs1 → W p l e R s m args below meth c H1 locs1 cells slots Q (F0 m (pc + 3) ls rest)) : W p l e R s m args below meth c H locs cells slots Q (F0 m pc ls (v :: .ref a :: rest)) :=
  va_putF (C := "StackedRows$Mender") (T := tk_T4) (N := 9) hx hb hts fi_MD tk_y4 tk_o4 tk_n4 hown hK hP hD hS q0 he rfl 3 (by decide) (hts _ fl_MD_21) (fun _ h9 => h9) rfl hin rfl (by decide +kernel) hn hfit hl hdg kk
theorem fl_MD_24 : Cond.fieldLink "StackedRows$Mender" 24 "StackedRows$Mender" "kept" "[I" ∈ xt_T := xt_in (List.mem_of_getElem? (i := 242) (by decide +kernel)) (by decide +kernel)
theorem pf_MD_24 (hin : meth.name = "<init>") (hx : p.tables.exec = Jvm.exec) (hb : c.code = cc) (hts : ∀ w ∈ xt_T, w.before args s = true) (hown : s.vm.findClass "StackedRows$Mender" = some m.cls) (hK : va_K g.1 vwCl (xg_t g) s) (hP : va_P g.1 vwCl ws H) (hD : va_D A ws) (hS : va_S A s.heap H locs) (q0 : Nat) {fs : List Value} (he : ws[q0]? = some (oc_o a 4 fs)) {v : Value} (hn : narrow (.array .int) v = v) (hfit : fits (.array .int) v = true) (hl : 4 < fs.length) (hdg : decode cc pc = .ok (.putfield 24, 3)) (kk : ∀ (H1 : Heap) (locs1 : List Loc), va_P g.1 vwCl (ws.set q0 (oc_o a 4 (fs.set 4 v))) H1 → va_D A (ws.set q0 (oc_o a 4 (fs.set 4 v))) → va_S A s.heap H1 locs1 → W p l e R s m args below meth c H1 locs1 cells slots Q (F0 m (pc + 3) ls rest)) : W p l e R s m args below meth c H locs cells slots Q (F0 m pc ls (v :: .ref a :: rest)) :=
  va_putF (C := "StackedRows$Mender") (T := tk_T4) (N := 9) hx hb hts fi_MD tk_y4 tk_o4 tk_n4 hown hK hP hD hS q0 he rfl 4 (by decide) (hts _ fl_MD_24) (fun _ h9 => h9) rfl hin rfl (by decide +kernel) hn hfit hl hdg kk
theorem fl_MD_27 : Cond.fieldLink "StackedRows$Mender" 27 "StackedRows$Mender" "evaluator" "[I" ∈ xt_T := xt_in (List.mem_of_getElem? (i := 243) (by decide +kernel)) (by decide +kernel)
theorem pf_MD_27 (hin : meth.name = "<init>") (hx : p.tables.exec = Jvm.exec) (hb : c.code = cc) (hts : ∀ w ∈ xt_T, w.before args s = true) (hown : s.vm.findClass "StackedRows$Mender" = some m.cls) (hK : va_K g.1 vwCl (xg_t g) s) (hP : va_P g.1 vwCl ws H) (hD : va_D A ws) (hS : va_S A s.heap H locs) (q0 : Nat) {fs : List Value} (he : ws[q0]? = some (oc_o a 4 fs)) {v : Value} (hn : narrow (.array .int) v = v) (hfit : fits (.array .int) v = true) (hl : 5 < fs.length) (hdg : decode cc pc = .ok (.putfield 27, 3)) (kk : ∀ (H1 : Heap) (locs1 : List Loc), va_P g.1 vwCl (ws.set q0 (oc_o a 4 (fs.set 5 v))) H1 → va_D A (ws.set q0 (oc_o a 4 (fs.set 5 v))) → va_S A s.heap H1 locs1 → W p l e R s m args below meth c H1 locs1 cells slots Q (F0 m (pc + 3) ls rest)) : W p l e R s m args below meth c H locs cells slots Q (F0 m pc ls (v :: .ref a :: rest)) :=
  va_putF (C := "StackedRows$Mender") (T := tk_T4) (N := 9) hx hb hts fi_MD tk_y4 tk_o4 tk_n4 hown hK hP hD hS q0 he rfl 5 (by decide) (hts _ fl_MD_27) (fun _ h9 => h9) rfl hin rfl (by decide +kernel) hn hfit hl hdg kk
theorem fl_MD_30 : Cond.fieldLink "StackedRows$Mender" 30 "StackedRows$Mender" "n" "I" ∈ xt_T := xt_in (List.mem_of_getElem? (i := 244) (by decide +kernel)) (by decide +kernel)
theorem pf_MD_30 (hx : p.tables.exec = Jvm.exec) (hb : c.code = cc) (hts : ∀ w ∈ xt_T, w.before args s = true) (hown : s.vm.findClass "StackedRows$Mender" = some m.cls) (hK : va_K g.1 vwCl (xg_t g) s) (hP : va_P g.1 vwCl ws H) (hD : va_D A ws) (hS : va_S A s.heap H locs) (q0 : Nat) {fs : List Value} (he : ws[q0]? = some (oc_o a 4 fs)) {v : Value} (hn : narrow (.int) v = v) (hfit : fits (.int) v = true) (hl : 6 < fs.length) (hdg : decode cc pc = .ok (.putfield 30, 3)) (kk : ∀ (H1 : Heap) (locs1 : List Loc), va_P g.1 vwCl (ws.set q0 (oc_o a 4 (fs.set 6 v))) H1 → va_D A (ws.set q0 (oc_o a 4 (fs.set 6 v))) → va_S A s.heap H1 locs1 → W p l e R s m args below meth c H1 locs1 cells slots Q (F0 m (pc + 3) ls rest)) : W p l e R s m args below meth c H locs cells slots Q (F0 m pc ls (v :: .ref a :: rest)) :=
  va_put (C := "StackedRows$Mender") (T := tk_T4) (N := 9) hx hb hts fi_MD tk_y4 tk_o4 tk_n4 hown hK hP hD hS q0 he rfl 6 (by decide) (hts _ fl_MD_30) (fun _ h9 => h9) rfl (by decide +kernel) hn hfit hl hdg kk
theorem fl_MD_34 : Cond.fieldLink "StackedRows$Mender" 34 "StackedRows$Mender" "k" "I" ∈ xt_T := xt_in (List.mem_of_getElem? (i := 245) (by decide +kernel)) (by decide +kernel)
theorem pf_MD_34 (hx : p.tables.exec = Jvm.exec) (hb : c.code = cc) (hts : ∀ w ∈ xt_T, w.before args s = true) (hown : s.vm.findClass "StackedRows$Mender" = some m.cls) (hK : va_K g.1 vwCl (xg_t g) s) (hP : va_P g.1 vwCl ws H) (hD : va_D A ws) (hS : va_S A s.heap H locs) (q0 : Nat) {fs : List Value} (he : ws[q0]? = some (oc_o a 4 fs)) {v : Value} (hn : narrow (.int) v = v) (hfit : fits (.int) v = true) (hl : 7 < fs.length) (hdg : decode cc pc = .ok (.putfield 34, 3)) (kk : ∀ (H1 : Heap) (locs1 : List Loc), va_P g.1 vwCl (ws.set q0 (oc_o a 4 (fs.set 7 v))) H1 → va_D A (ws.set q0 (oc_o a 4 (fs.set 7 v))) → va_S A s.heap H1 locs1 → W p l e R s m args below meth c H1 locs1 cells slots Q (F0 m (pc + 3) ls rest)) : W p l e R s m args below meth c H locs cells slots Q (F0 m pc ls (v :: .ref a :: rest)) :=
  va_put (C := "StackedRows$Mender") (T := tk_T4) (N := 9) hx hb hts fi_MD tk_y4 tk_o4 tk_n4 hown hK hP hD hS q0 he rfl 7 (by decide) (hts _ fl_MD_34) (fun _ h9 => h9) rfl (by decide +kernel) hn hfit hl hdg kk
theorem fl_MD_37 : Cond.fieldLink "StackedRows$Mender" 37 "StackedRows$Mender" "degree" "I" ∈ xt_T := xt_in (List.mem_of_getElem? (i := 246) (by decide +kernel)) (by decide +kernel)
theorem pf_MD_37 (hx : p.tables.exec = Jvm.exec) (hb : c.code = cc) (hts : ∀ w ∈ xt_T, w.before args s = true) (hown : s.vm.findClass "StackedRows$Mender" = some m.cls) (hK : va_K g.1 vwCl (xg_t g) s) (hP : va_P g.1 vwCl ws H) (hD : va_D A ws) (hS : va_S A s.heap H locs) (q0 : Nat) {fs : List Value} (he : ws[q0]? = some (oc_o a 4 fs)) {v : Value} (hn : narrow (.int) v = v) (hfit : fits (.int) v = true) (hl : 8 < fs.length) (hdg : decode cc pc = .ok (.putfield 37, 3)) (kk : ∀ (H1 : Heap) (locs1 : List Loc), va_P g.1 vwCl (ws.set q0 (oc_o a 4 (fs.set 8 v))) H1 → va_D A (ws.set q0 (oc_o a 4 (fs.set 8 v))) → va_S A s.heap H1 locs1 → W p l e R s m args below meth c H1 locs1 cells slots Q (F0 m (pc + 3) ls rest)) : W p l e R s m args below meth c H locs cells slots Q (F0 m pc ls (v :: .ref a :: rest)) :=
  va_put (C := "StackedRows$Mender") (T := tk_T4) (N := 9) hx hb hts fi_MD tk_y4 tk_o4 tk_n4 hown hK hP hD hS q0 he rfl 8 (by decide) (hts _ fl_MD_37) (fun _ h9 => h9) rfl (by decide +kernel) hn hfit hl hdg kk
theorem fl_MD_9 : Cond.fieldLink "StackedRows$Mender" 9 "StackedRows$Mender" "mended" "[I" ∈ xt_T := xt_in (List.mem_of_getElem? (i := 238) (by decide +kernel)) (by decide +kernel)
theorem pf_MD_9 (hin : meth.name = "<init>") (hx : p.tables.exec = Jvm.exec) (hb : c.code = cc) (hts : ∀ w ∈ xt_T, w.before args s = true) (hown : s.vm.findClass "StackedRows$Mender" = some m.cls) (hK : va_K g.1 vwCl (xg_t g) s) (hP : va_P g.1 vwCl ws H) (hD : va_D A ws) (hS : va_S A s.heap H locs) (q0 : Nat) {fs : List Value} (he : ws[q0]? = some (oc_o a 4 fs)) {v : Value} (hn : narrow (.array .int) v = v) (hfit : fits (.array .int) v = true) (hl : 0 < fs.length) (hdg : decode cc pc = .ok (.putfield 9, 3)) (kk : ∀ (H1 : Heap) (locs1 : List Loc), va_P g.1 vwCl (ws.set q0 (oc_o a 4 (fs.set 0 v))) H1 → va_D A (ws.set q0 (oc_o a 4 (fs.set 0 v))) → va_S A s.heap H1 locs1 → W p l e R s m args below meth c H1 locs1 cells slots Q (F0 m (pc + 3) ls rest)) : W p l e R s m args below meth c H locs cells slots Q (F0 m pc ls (v :: .ref a :: rest)) :=
  va_putF (C := "StackedRows$Mender") (T := tk_T4) (N := 9) hx hb hts fi_MD tk_y4 tk_o4 tk_n4 hown hK hP hD hS q0 he rfl 0 (by decide) (hts _ fl_MD_9) (fun _ h9 => h9) rfl hin rfl (by decide +kernel) hn hfit hl hdg kk
theorem fl_RD_15 : Cond.fieldLink "StackedRows$Reader" 15 "StackedRows$Reader" "out" "LStackedRows$Tape;" ∈ xt_T := xt_in (List.mem_of_getElem? (i := 278) (by decide +kernel)) (by decide +kernel)
theorem pf_RD_15 (hin : meth.name = "<init>") (hx : p.tables.exec = Jvm.exec) (hb : c.code = cc) (hts : ∀ w ∈ xt_T, w.before args s = true) (hown : s.vm.findClass "StackedRows$Reader" = some m.cls) (hK : va_K g.1 vwCl (xg_t g) s) (hP : va_P g.1 vwCl ws H) (hD : va_D A ws) (hS : va_S A s.heap H locs) (q0 : Nat) {fs : List Value} (he : ws[q0]? = some (oc_o a 5 fs)) {v : Value} (hn : narrow (.object "StackedRows$Tape") v = v) (hfit : fits (.object "StackedRows$Tape") v = true) (hl : 1 < fs.length) (hdg : decode cc pc = .ok (.putfield 15, 3)) (kk : ∀ (H1 : Heap) (locs1 : List Loc), va_P g.1 vwCl (ws.set q0 (oc_o a 5 (fs.set 1 v))) H1 → va_D A (ws.set q0 (oc_o a 5 (fs.set 1 v))) → va_S A s.heap H1 locs1 → W p l e R s m args below meth c H1 locs1 cells slots Q (F0 m (pc + 3) ls rest)) : W p l e R s m args below meth c H locs cells slots Q (F0 m pc ls (v :: .ref a :: rest)) :=
  va_putF (C := "StackedRows$Reader") (T := tk_T5) (N := 8) hx hb hts fi_RD tk_y5 tk_o5 tk_n5 hown hK hP hD hS q0 he rfl 1 (by decide) (hts _ fl_RD_15) (fun _ h9 => h9) rfl hin rfl (by decide +kernel) hn hfit hl hdg kk
theorem fl_RD_24 : Cond.fieldLink "StackedRows$Reader" 24 "StackedRows$Reader" "number" "LStackedRows$BigNumber;" ∈ xt_T := xt_in (List.mem_of_getElem? (i := 279) (by decide +kernel)) (by decide +kernel)
theorem pf_RD_24 (hin : meth.name = "<init>") (hx : p.tables.exec = Jvm.exec) (hb : c.code = cc) (hts : ∀ w ∈ xt_T, w.before args s = true) (hown : s.vm.findClass "StackedRows$Reader" = some m.cls) (hK : va_K g.1 vwCl (xg_t g) s) (hP : va_P g.1 vwCl ws H) (hD : va_D A ws) (hS : va_S A s.heap H locs) (q0 : Nat) {fs : List Value} (he : ws[q0]? = some (oc_o a 5 fs)) {v : Value} (hn : narrow (.object "StackedRows$BigNumber") v = v) (hfit : fits (.object "StackedRows$BigNumber") v = true) (hl : 2 < fs.length) (hdg : decode cc pc = .ok (.putfield 24, 3)) (kk : ∀ (H1 : Heap) (locs1 : List Loc), va_P g.1 vwCl (ws.set q0 (oc_o a 5 (fs.set 2 v))) H1 → va_D A (ws.set q0 (oc_o a 5 (fs.set 2 v))) → va_S A s.heap H1 locs1 → W p l e R s m args below meth c H1 locs1 cells slots Q (F0 m (pc + 3) ls rest)) : W p l e R s m args below meth c H locs cells slots Q (F0 m pc ls (v :: .ref a :: rest)) :=
  va_putF (C := "StackedRows$Reader") (T := tk_T5) (N := 8) hx hb hts fi_RD tk_y5 tk_o5 tk_n5 hown hK hP hD hS q0 he rfl 2 (by decide) (hts _ fl_RD_24) (fun _ h9 => h9) rfl hin rfl (by decide +kernel) hn hfit hl hdg kk
theorem fl_RD_28 : Cond.fieldLink "StackedRows$Reader" 28 "StackedRows$Reader" "upTo" "I" ∈ xt_T := xt_in (List.mem_of_getElem? (i := 280) (by decide +kernel)) (by decide +kernel)
theorem pf_RD_28 (hx : p.tables.exec = Jvm.exec) (hb : c.code = cc) (hts : ∀ w ∈ xt_T, w.before args s = true) (hown : s.vm.findClass "StackedRows$Reader" = some m.cls) (hK : va_K g.1 vwCl (xg_t g) s) (hP : va_P g.1 vwCl ws H) (hD : va_D A ws) (hS : va_S A s.heap H locs) (q0 : Nat) {fs : List Value} (he : ws[q0]? = some (oc_o a 5 fs)) {v : Value} (hn : narrow (.int) v = v) (hfit : fits (.int) v = true) (hl : 3 < fs.length) (hdg : decode cc pc = .ok (.putfield 28, 3)) (kk : ∀ (H1 : Heap) (locs1 : List Loc), va_P g.1 vwCl (ws.set q0 (oc_o a 5 (fs.set 3 v))) H1 → va_D A (ws.set q0 (oc_o a 5 (fs.set 3 v))) → va_S A s.heap H1 locs1 → W p l e R s m args below meth c H1 locs1 cells slots Q (F0 m (pc + 3) ls rest)) : W p l e R s m args below meth c H locs cells slots Q (F0 m pc ls (v :: .ref a :: rest)) :=
  va_put (C := "StackedRows$Reader") (T := tk_T5) (N := 8) hx hb hts fi_RD tk_y5 tk_o5 tk_n5 hown hK hP hD hS q0 he rfl 3 (by decide) (hts _ fl_RD_28) (fun _ h9 => h9) rfl (by decide +kernel) hn hfit hl hdg kk
theorem fl_RD_32 : Cond.fieldLink "StackedRows$Reader" 32 "StackedRows$Reader" "way" "I" ∈ xt_T := xt_in (List.mem_of_getElem? (i := 281) (by decide +kernel)) (by decide +kernel)
theorem pf_RD_32 (hx : p.tables.exec = Jvm.exec) (hb : c.code = cc) (hts : ∀ w ∈ xt_T, w.before args s = true) (hown : s.vm.findClass "StackedRows$Reader" = some m.cls) (hK : va_K g.1 vwCl (xg_t g) s) (hP : va_P g.1 vwCl ws H) (hD : va_D A ws) (hS : va_S A s.heap H locs) (q0 : Nat) {fs : List Value} (he : ws[q0]? = some (oc_o a 5 fs)) {v : Value} (hn : narrow (.int) v = v) (hfit : fits (.int) v = true) (hl : 4 < fs.length) (hdg : decode cc pc = .ok (.putfield 32, 3)) (kk : ∀ (H1 : Heap) (locs1 : List Loc), va_P g.1 vwCl (ws.set q0 (oc_o a 5 (fs.set 4 v))) H1 → va_D A (ws.set q0 (oc_o a 5 (fs.set 4 v))) → va_S A s.heap H1 locs1 → W p l e R s m args below meth c H1 locs1 cells slots Q (F0 m (pc + 3) ls rest)) : W p l e R s m args below meth c H locs cells slots Q (F0 m pc ls (v :: .ref a :: rest)) :=
  va_put (C := "StackedRows$Reader") (T := tk_T5) (N := 8) hx hb hts fi_RD tk_y5 tk_o5 tk_n5 hown hK hP hD hS q0 he rfl 4 (by decide) (hts _ fl_RD_32) (fun _ h9 => h9) rfl (by decide +kernel) hn hfit hl hdg kk
theorem fl_RD_41 : Cond.fieldLink "StackedRows$Reader" 41 "StackedRows$Reader" "set" "LStackedRows$Letters;" ∈ xt_T := xt_in (List.mem_of_getElem? (i := 282) (by decide +kernel)) (by decide +kernel)
theorem pf_RD_41 (hx : p.tables.exec = Jvm.exec) (hb : c.code = cc) (hts : ∀ w ∈ xt_T, w.before args s = true) (hown : s.vm.findClass "StackedRows$Reader" = some m.cls) (hK : va_K g.1 vwCl (xg_t g) s) (hP : va_P g.1 vwCl ws H) (hD : va_D A ws) (hS : va_S A s.heap H locs) (q0 : Nat) {fs : List Value} (he : ws[q0]? = some (oc_o a 5 fs)) {v : Value} (hn : narrow (.object "StackedRows$Letters") v = v) (hfit : fits (.object "StackedRows$Letters") v = true) (hl : 5 < fs.length) (hdg : decode cc pc = .ok (.putfield 41, 3)) (kk : ∀ (H1 : Heap) (locs1 : List Loc), va_P g.1 vwCl (ws.set q0 (oc_o a 5 (fs.set 5 v))) H1 → va_D A (ws.set q0 (oc_o a 5 (fs.set 5 v))) → va_S A s.heap H1 locs1 → W p l e R s m args below meth c H1 locs1 cells slots Q (F0 m (pc + 3) ls rest)) : W p l e R s m args below meth c H locs cells slots Q (F0 m pc ls (v :: .ref a :: rest)) :=
  va_put (C := "StackedRows$Reader") (T := tk_T5) (N := 8) hx hb hts fi_RD tk_y5 tk_o5 tk_n5 hown hK hP hD hS q0 he rfl 5 (by decide) (hts _ fl_RD_41) (fun _ h9 => h9) rfl (by decide +kernel) hn hfit hl hdg kk
theorem fl_RD_44 : Cond.fieldLink "StackedRows$Reader" 44 "StackedRows$Reader" "alone" "LStackedRows$Letters;" ∈ xt_T := xt_in (List.mem_of_getElem? (i := 283) (by decide +kernel)) (by decide +kernel)
theorem pf_RD_44 (hx : p.tables.exec = Jvm.exec) (hb : c.code = cc) (hts : ∀ w ∈ xt_T, w.before args s = true) (hown : s.vm.findClass "StackedRows$Reader" = some m.cls) (hK : va_K g.1 vwCl (xg_t g) s) (hP : va_P g.1 vwCl ws H) (hD : va_D A ws) (hS : va_S A s.heap H locs) (q0 : Nat) {fs : List Value} (he : ws[q0]? = some (oc_o a 5 fs)) {v : Value} (hn : narrow (.object "StackedRows$Letters") v = v) (hfit : fits (.object "StackedRows$Letters") v = true) (hl : 6 < fs.length) (hdg : decode cc pc = .ok (.putfield 44, 3)) (kk : ∀ (H1 : Heap) (locs1 : List Loc), va_P g.1 vwCl (ws.set q0 (oc_o a 5 (fs.set 6 v))) H1 → va_D A (ws.set q0 (oc_o a 5 (fs.set 6 v))) → va_S A s.heap H1 locs1 → W p l e R s m args below meth c H1 locs1 cells slots Q (F0 m (pc + 3) ls rest)) : W p l e R s m args below meth c H locs cells slots Q (F0 m pc ls (v :: .ref a :: rest)) :=
  va_put (C := "StackedRows$Reader") (T := tk_T5) (N := 8) hx hb hts fi_RD tk_y5 tk_o5 tk_n5 hown hK hP hD hS q0 he rfl 6 (by decide) (hts _ fl_RD_44) (fun _ h9 => h9) rfl (by decide +kernel) hn hfit hl hdg kk
theorem fl_RD_47 : Cond.fieldLink "StackedRows$Reader" 47 "StackedRows$Reader" "faultAt" "I" ∈ xt_T := xt_in (List.mem_of_getElem? (i := 284) (by decide +kernel)) (by decide +kernel)
theorem pf_RD_47 (hx : p.tables.exec = Jvm.exec) (hb : c.code = cc) (hts : ∀ w ∈ xt_T, w.before args s = true) (hown : s.vm.findClass "StackedRows$Reader" = some m.cls) (hK : va_K g.1 vwCl (xg_t g) s) (hP : va_P g.1 vwCl ws H) (hD : va_D A ws) (hS : va_S A s.heap H locs) (q0 : Nat) {fs : List Value} (he : ws[q0]? = some (oc_o a 5 fs)) {v : Value} (hn : narrow (.int) v = v) (hfit : fits (.int) v = true) (hl : 7 < fs.length) (hdg : decode cc pc = .ok (.putfield 47, 3)) (kk : ∀ (H1 : Heap) (locs1 : List Loc), va_P g.1 vwCl (ws.set q0 (oc_o a 5 (fs.set 7 v))) H1 → va_D A (ws.set q0 (oc_o a 5 (fs.set 7 v))) → va_S A s.heap H1 locs1 → W p l e R s m args below meth c H1 locs1 cells slots Q (F0 m (pc + 3) ls rest)) : W p l e R s m args below meth c H locs cells slots Q (F0 m pc ls (v :: .ref a :: rest)) :=
  va_put (C := "StackedRows$Reader") (T := tk_T5) (N := 8) hx hb hts fi_RD tk_y5 tk_o5 tk_n5 hown hK hP hD hS q0 he rfl 7 (by decide) (hts _ fl_RD_47) (fun _ h9 => h9) rfl (by decide +kernel) hn hfit hl hdg kk
theorem fl_RD_9 : Cond.fieldLink "StackedRows$Reader" 9 "StackedRows$Reader" "row" "[I" ∈ xt_T := xt_in (List.mem_of_getElem? (i := 277) (by decide +kernel)) (by decide +kernel)
theorem pf_RD_9 (hin : meth.name = "<init>") (hx : p.tables.exec = Jvm.exec) (hb : c.code = cc) (hts : ∀ w ∈ xt_T, w.before args s = true) (hown : s.vm.findClass "StackedRows$Reader" = some m.cls) (hK : va_K g.1 vwCl (xg_t g) s) (hP : va_P g.1 vwCl ws H) (hD : va_D A ws) (hS : va_S A s.heap H locs) (q0 : Nat) {fs : List Value} (he : ws[q0]? = some (oc_o a 5 fs)) {v : Value} (hn : narrow (.array .int) v = v) (hfit : fits (.array .int) v = true) (hl : 0 < fs.length) (hdg : decode cc pc = .ok (.putfield 9, 3)) (kk : ∀ (H1 : Heap) (locs1 : List Loc), va_P g.1 vwCl (ws.set q0 (oc_o a 5 (fs.set 0 v))) H1 → va_D A (ws.set q0 (oc_o a 5 (fs.set 0 v))) → va_S A s.heap H1 locs1 → W p l e R s m args below meth c H1 locs1 cells slots Q (F0 m (pc + 3) ls rest)) : W p l e R s m args below meth c H locs cells slots Q (F0 m pc ls (v :: .ref a :: rest)) :=
  va_putF (C := "StackedRows$Reader") (T := tk_T5) (N := 8) hx hb hts fi_RD tk_y5 tk_o5 tk_n5 hown hK hP hD hS q0 he rfl 0 (by decide) (hts _ fl_RD_9) (fun _ h9 => h9) rfl hin rfl (by decide +kernel) hn hfit hl hdg kk
theorem fl_SV_15 : Cond.fieldLink "StackedRows$Solver" 15 "StackedRows$Solver" "told" "[I" ∈ xt_T := xt_in (List.mem_of_getElem? (i := 302) (by decide +kernel)) (by decide +kernel)
theorem pf_SV_15 (hin : meth.name = "<init>") (hx : p.tables.exec = Jvm.exec) (hb : c.code = cc) (hts : ∀ w ∈ xt_T, w.before args s = true) (hown : s.vm.findClass "StackedRows$Solver" = some m.cls) (hK : va_K g.1 vwCl (xg_t g) s) (hP : va_P g.1 vwCl ws H) (hD : va_D A ws) (hS : va_S A s.heap H locs) (q0 : Nat) {fs : List Value} (he : ws[q0]? = some (oc_o a 6 fs)) {v : Value} (hn : narrow (.array .int) v = v) (hfit : fits (.array .int) v = true) (hl : 0 < fs.length) (hdg : decode cc pc = .ok (.putfield 15, 3)) (kk : ∀ (H1 : Heap) (locs1 : List Loc), va_P g.1 vwCl (ws.set q0 (oc_o a 6 (fs.set 0 v))) H1 → va_D A (ws.set q0 (oc_o a 6 (fs.set 0 v))) → va_S A s.heap H1 locs1 → W p l e R s m args below meth c H1 locs1 cells slots Q (F0 m (pc + 3) ls rest)) : W p l e R s m args below meth c H locs cells slots Q (F0 m pc ls (v :: .ref a :: rest)) :=
  va_putF (C := "StackedRows$Solver") (T := tk_T6) (N := 9) hx hb hts fi_SV tk_y6 tk_o6 tk_n6 hown hK hP hD hS q0 he rfl 0 (by decide) (hts _ fl_SV_15) (fun _ h9 => h9) rfl hin rfl (by decide +kernel) hn hfit hl hdg kk
theorem pf_SV_18 (hin : meth.name = "<init>") (hx : p.tables.exec = Jvm.exec) (hb : c.code = cc) (hts : ∀ w ∈ xt_T, w.before args s = true) (hown : s.vm.findClass "StackedRows$Solver" = some m.cls) (hK : va_K g.1 vwCl (xg_t g) s) (hP : va_P g.1 vwCl ws H) (hD : va_D A ws) (hS : va_S A s.heap H locs) (q0 : Nat) {fs : List Value} (he : ws[q0]? = some (oc_o a 6 fs)) {v : Value} (hn : narrow (.array .int) v = v) (hfit : fits (.array .int) v = true) (hl : 2 < fs.length) (hdg : decode cc pc = .ok (.putfield 18, 3)) (kk : ∀ (H1 : Heap) (locs1 : List Loc), va_P g.1 vwCl (ws.set q0 (oc_o a 6 (fs.set 2 v))) H1 → va_D A (ws.set q0 (oc_o a 6 (fs.set 2 v))) → va_S A s.heap H1 locs1 → W p l e R s m args below meth c H1 locs1 cells slots Q (F0 m (pc + 3) ls rest)) : W p l e R s m args below meth c H locs cells slots Q (F0 m pc ls (v :: .ref a :: rest)) :=
  va_putF (C := "StackedRows$Solver") (T := tk_T6) (N := 9) hx hb hts fi_SV tk_y6 tk_o6 tk_n6 hown hK hP hD hS q0 he rfl 2 (by decide) (hts _ fl_SV_18) (fun _ h9 => h9) rfl hin rfl (by decide +kernel) hn hfit hl hdg kk
theorem fl_SV_26 : Cond.fieldLink "StackedRows$Solver" 26 "StackedRows$Solver" "mender" "LStackedRows$Mender;" ∈ xt_T := xt_in (List.mem_of_getElem? (i := 305) (by decide +kernel)) (by decide +kernel)
theorem pf_SV_26 (hin : meth.name = "<init>") (hx : p.tables.exec = Jvm.exec) (hb : c.code = cc) (hts : ∀ w ∈ xt_T, w.before args s = true) (hown : s.vm.findClass "StackedRows$Solver" = some m.cls) (hK : va_K g.1 vwCl (xg_t g) s) (hP : va_P g.1 vwCl ws H) (hD : va_D A ws) (hS : va_S A s.heap H locs) (q0 : Nat) {fs : List Value} (he : ws[q0]? = some (oc_o a 6 fs)) {v : Value} (hn : narrow (.object "StackedRows$Mender") v = v) (hfit : fits (.object "StackedRows$Mender") v = true) (hl : 3 < fs.length) (hdg : decode cc pc = .ok (.putfield 26, 3)) (kk : ∀ (H1 : Heap) (locs1 : List Loc), va_P g.1 vwCl (ws.set q0 (oc_o a 6 (fs.set 3 v))) H1 → va_D A (ws.set q0 (oc_o a 6 (fs.set 3 v))) → va_S A s.heap H1 locs1 → W p l e R s m args below meth c H1 locs1 cells slots Q (F0 m (pc + 3) ls rest)) : W p l e R s m args below meth c H locs cells slots Q (F0 m pc ls (v :: .ref a :: rest)) :=
  va_putF (C := "StackedRows$Solver") (T := tk_T6) (N := 9) hx hb hts fi_SV tk_y6 tk_o6 tk_n6 hown hK hP hD hS q0 he rfl 3 (by decide) (hts _ fl_SV_26) (fun _ h9 => h9) rfl hin rfl (by decide +kernel) hn hfit hl hdg kk
theorem pf_SV_33 (hin : meth.name = "<init>") (hx : p.tables.exec = Jvm.exec) (hb : c.code = cc) (hts : ∀ w ∈ xt_T, w.before args s = true) (hown : s.vm.findClass "StackedRows$Solver" = some m.cls) (hK : va_K g.1 vwCl (xg_t g) s) (hP : va_P g.1 vwCl ws H) (hD : va_D A ws) (hS : va_S A s.heap H locs) (q0 : Nat) {fs : List Value} (he : ws[q0]? = some (oc_o a 6 fs)) {v : Value} (hn : narrow (.object "StackedRows$Tape") v = v) (hfit : fits (.object "StackedRows$Tape") v = true) (hl : 4 < fs.length) (hdg : decode cc pc = .ok (.putfield 33, 3)) (kk : ∀ (H1 : Heap) (locs1 : List Loc), va_P g.1 vwCl (ws.set q0 (oc_o a 6 (fs.set 4 v))) H1 → va_D A (ws.set q0 (oc_o a 6 (fs.set 4 v))) → va_S A s.heap H1 locs1 → W p l e R s m args below meth c H1 locs1 cells slots Q (F0 m (pc + 3) ls rest)) : W p l e R s m args below meth c H locs cells slots Q (F0 m pc ls (v :: .ref a :: rest)) :=
  va_putF (C := "StackedRows$Solver") (T := tk_T6) (N := 9) hx hb hts fi_SV tk_y6 tk_o6 tk_n6 hown hK hP hD hS q0 he rfl 4 (by decide) (hts _ fl_SV_33) (fun _ h9 => h9) rfl hin rfl (by decide +kernel) hn hfit hl hdg kk
theorem fl_SV_42 : Cond.fieldLink "StackedRows$Solver" 42 "StackedRows$Solver" "reader" "LStackedRows$Reader;" ∈ xt_T := xt_in (List.mem_of_getElem? (i := 307) (by decide +kernel)) (by decide +kernel)
theorem pf_SV_42 (hin : meth.name = "<init>") (hx : p.tables.exec = Jvm.exec) (hb : c.code = cc) (hts : ∀ w ∈ xt_T, w.before args s = true) (hown : s.vm.findClass "StackedRows$Solver" = some m.cls) (hK : va_K g.1 vwCl (xg_t g) s) (hP : va_P g.1 vwCl ws H) (hD : va_D A ws) (hS : va_S A s.heap H locs) (q0 : Nat) {fs : List Value} (he : ws[q0]? = some (oc_o a 6 fs)) {v : Value} (hn : narrow (.object "StackedRows$Reader") v = v) (hfit : fits (.object "StackedRows$Reader") v = true) (hl : 5 < fs.length) (hdg : decode cc pc = .ok (.putfield 42, 3)) (kk : ∀ (H1 : Heap) (locs1 : List Loc), va_P g.1 vwCl (ws.set q0 (oc_o a 6 (fs.set 5 v))) H1 → va_D A (ws.set q0 (oc_o a 6 (fs.set 5 v))) → va_S A s.heap H1 locs1 → W p l e R s m args below meth c H1 locs1 cells slots Q (F0 m (pc + 3) ls rest)) : W p l e R s m args below meth c H locs cells slots Q (F0 m pc ls (v :: .ref a :: rest)) :=
  va_putF (C := "StackedRows$Solver") (T := tk_T6) (N := 9) hx hb hts fi_SV tk_y6 tk_o6 tk_n6 hown hK hP hD hS q0 he rfl 5 (by decide) (hts _ fl_SV_42) (fun _ h9 => h9) rfl hin rfl (by decide +kernel) hn hfit hl hdg kk
theorem fl_SV_46 : Cond.fieldLink "StackedRows$Solver" 46 "StackedRows$Solver" "faultAt" "I" ∈ xt_T := xt_in (List.mem_of_getElem? (i := 308) (by decide +kernel)) (by decide +kernel)
theorem pf_SV_46 (hx : p.tables.exec = Jvm.exec) (hb : c.code = cc) (hts : ∀ w ∈ xt_T, w.before args s = true) (hown : s.vm.findClass "StackedRows$Solver" = some m.cls) (hK : va_K g.1 vwCl (xg_t g) s) (hP : va_P g.1 vwCl ws H) (hD : va_D A ws) (hS : va_S A s.heap H locs) (q0 : Nat) {fs : List Value} (he : ws[q0]? = some (oc_o a 6 fs)) {v : Value} (hn : narrow (.int) v = v) (hfit : fits (.int) v = true) (hl : 6 < fs.length) (hdg : decode cc pc = .ok (.putfield 46, 3)) (kk : ∀ (H1 : Heap) (locs1 : List Loc), va_P g.1 vwCl (ws.set q0 (oc_o a 6 (fs.set 6 v))) H1 → va_D A (ws.set q0 (oc_o a 6 (fs.set 6 v))) → va_S A s.heap H1 locs1 → W p l e R s m args below meth c H1 locs1 cells slots Q (F0 m (pc + 3) ls rest)) : W p l e R s m args below meth c H locs cells slots Q (F0 m pc ls (v :: .ref a :: rest)) :=
  va_put (C := "StackedRows$Solver") (T := tk_T6) (N := 9) hx hb hts fi_SV tk_y6 tk_o6 tk_n6 hown hK hP hD hS q0 he rfl 6 (by decide) (hts _ fl_SV_46) (fun _ h9 => h9) rfl (by decide +kernel) hn hfit hl hdg kk
theorem fl_SV_50 : Cond.fieldLink "StackedRows$Solver" 50 "StackedRows$Solver" "wrong" "I" ∈ xt_T := xt_in (List.mem_of_getElem? (i := 309) (by decide +kernel)) (by decide +kernel)
theorem pf_SV_50 (hx : p.tables.exec = Jvm.exec) (hb : c.code = cc) (hts : ∀ w ∈ xt_T, w.before args s = true) (hown : s.vm.findClass "StackedRows$Solver" = some m.cls) (hK : va_K g.1 vwCl (xg_t g) s) (hP : va_P g.1 vwCl ws H) (hD : va_D A ws) (hS : va_S A s.heap H locs) (q0 : Nat) {fs : List Value} (he : ws[q0]? = some (oc_o a 6 fs)) {v : Value} (hn : narrow (.int) v = v) (hfit : fits (.int) v = true) (hl : 7 < fs.length) (hdg : decode cc pc = .ok (.putfield 50, 3)) (kk : ∀ (H1 : Heap) (locs1 : List Loc), va_P g.1 vwCl (ws.set q0 (oc_o a 6 (fs.set 7 v))) H1 → va_D A (ws.set q0 (oc_o a 6 (fs.set 7 v))) → va_S A s.heap H1 locs1 → W p l e R s m args below meth c H1 locs1 cells slots Q (F0 m (pc + 3) ls rest)) : W p l e R s m args below meth c H locs cells slots Q (F0 m pc ls (v :: .ref a :: rest)) :=
  va_put (C := "StackedRows$Solver") (T := tk_T6) (N := 9) hx hb hts fi_SV tk_y6 tk_o6 tk_n6 hown hK hP hD hS q0 he rfl 7 (by decide) (hts _ fl_SV_50) (fun _ h9 => h9) rfl (by decide +kernel) hn hfit hl hdg kk
theorem fl_SV_53 : Cond.fieldLink "StackedRows$Solver" 53 "StackedRows$Solver" "level" "I" ∈ xt_T := xt_in (List.mem_of_getElem? (i := 310) (by decide +kernel)) (by decide +kernel)
theorem pf_SV_53 (hx : p.tables.exec = Jvm.exec) (hb : c.code = cc) (hts : ∀ w ∈ xt_T, w.before args s = true) (hown : s.vm.findClass "StackedRows$Solver" = some m.cls) (hK : va_K g.1 vwCl (xg_t g) s) (hP : va_P g.1 vwCl ws H) (hD : va_D A ws) (hS : va_S A s.heap H locs) (q0 : Nat) {fs : List Value} (he : ws[q0]? = some (oc_o a 6 fs)) {v : Value} (hn : narrow (.int) v = v) (hfit : fits (.int) v = true) (hl : 8 < fs.length) (hdg : decode cc pc = .ok (.putfield 53, 3)) (kk : ∀ (H1 : Heap) (locs1 : List Loc), va_P g.1 vwCl (ws.set q0 (oc_o a 6 (fs.set 8 v))) H1 → va_D A (ws.set q0 (oc_o a 6 (fs.set 8 v))) → va_S A s.heap H1 locs1 → W p l e R s m args below meth c H1 locs1 cells slots Q (F0 m (pc + 3) ls rest)) : W p l e R s m args below meth c H locs cells slots Q (F0 m pc ls (v :: .ref a :: rest)) :=
  va_put (C := "StackedRows$Solver") (T := tk_T6) (N := 9) hx hb hts fi_SV tk_y6 tk_o6 tk_n6 hown hK hP hD hS q0 he rfl 8 (by decide) (hts _ fl_SV_53) (fun _ h9 => h9) rfl (by decide +kernel) hn hfit hl hdg kk
theorem fl_SV_9 : Cond.fieldLink "StackedRows$Solver" 9 "StackedRows$Solver" "row" "[I" ∈ xt_T := xt_in (List.mem_of_getElem? (i := 303) (by decide +kernel)) (by decide +kernel)
theorem pf_SV_9 (hin : meth.name = "<init>") (hx : p.tables.exec = Jvm.exec) (hb : c.code = cc) (hts : ∀ w ∈ xt_T, w.before args s = true) (hown : s.vm.findClass "StackedRows$Solver" = some m.cls) (hK : va_K g.1 vwCl (xg_t g) s) (hP : va_P g.1 vwCl ws H) (hD : va_D A ws) (hS : va_S A s.heap H locs) (q0 : Nat) {fs : List Value} (he : ws[q0]? = some (oc_o a 6 fs)) {v : Value} (hn : narrow (.array .int) v = v) (hfit : fits (.array .int) v = true) (hl : 1 < fs.length) (hdg : decode cc pc = .ok (.putfield 9, 3)) (kk : ∀ (H1 : Heap) (locs1 : List Loc), va_P g.1 vwCl (ws.set q0 (oc_o a 6 (fs.set 1 v))) H1 → va_D A (ws.set q0 (oc_o a 6 (fs.set 1 v))) → va_S A s.heap H1 locs1 → W p l e R s m args below meth c H1 locs1 cells slots Q (F0 m (pc + 3) ls rest)) : W p l e R s m args below meth c H locs cells slots Q (F0 m pc ls (v :: .ref a :: rest)) :=
  va_putF (C := "StackedRows$Solver") (T := tk_T6) (N := 9) hx hb hts fi_SV tk_y6 tk_o6 tk_n6 hown hK hP hD hS q0 he rfl 1 (by decide) (hts _ fl_SV_9) (fun _ h9 => h9) rfl hin rfl (by decide +kernel) hn hfit hl hdg kk
theorem pf_SY_15 (hx : p.tables.exec = Jvm.exec) (hb : c.code = cc) (hts : ∀ w ∈ xt_T, w.before args s = true) (hown : s.vm.findClass "StackedRows$Symbol" = some m.cls) (hK : va_K g.1 vwCl (xg_t g) s) (hP : va_P g.1 vwCl ws H) (hD : va_D A ws) (hS : va_S A s.heap H locs) (q0 : Nat) {fs : List Value} (he : ws[q0]? = some (oc_o a 7 fs)) {v : Value} (hn : narrow (.int) v = v) (hfit : fits (.int) v = true) (hl : 1 < fs.length) (hdg : decode cc pc = .ok (.putfield 15, 3)) (kk : ∀ (H1 : Heap) (locs1 : List Loc), va_P g.1 vwCl (ws.set q0 (oc_o a 7 (fs.set 1 v))) H1 → va_D A (ws.set q0 (oc_o a 7 (fs.set 1 v))) → va_S A s.heap H1 locs1 → W p l e R s m args below meth c H1 locs1 cells slots Q (F0 m (pc + 3) ls rest)) : W p l e R s m args below meth c H locs cells slots Q (F0 m pc ls (v :: .ref a :: rest)) :=
  va_put (C := "StackedRows$Symbol") (T := tk_T7) (N := 3) hx hb hts fi_SY tk_y7 tk_o7 tk_n7 hown hK hP hD hS q0 he rfl 1 (by decide) (hts _ fl_SY_15) (fun _ h9 => h9) rfl (by decide +kernel) hn hfit hl hdg kk
theorem pf_SY_19 (hx : p.tables.exec = Jvm.exec) (hb : c.code = cc) (hts : ∀ w ∈ xt_T, w.before args s = true) (hown : s.vm.findClass "StackedRows$Symbol" = some m.cls) (hK : va_K g.1 vwCl (xg_t g) s) (hP : va_P g.1 vwCl ws H) (hD : va_D A ws) (hS : va_S A s.heap H locs) (q0 : Nat) {fs : List Value} (he : ws[q0]? = some (oc_o a 7 fs)) {v : Value} (hn : narrow (.int) v = v) (hfit : fits (.int) v = true) (hl : 2 < fs.length) (hdg : decode cc pc = .ok (.putfield 19, 3)) (kk : ∀ (H1 : Heap) (locs1 : List Loc), va_P g.1 vwCl (ws.set q0 (oc_o a 7 (fs.set 2 v))) H1 → va_D A (ws.set q0 (oc_o a 7 (fs.set 2 v))) → va_S A s.heap H1 locs1 → W p l e R s m args below meth c H1 locs1 cells slots Q (F0 m (pc + 3) ls rest)) : W p l e R s m args below meth c H locs cells slots Q (F0 m pc ls (v :: .ref a :: rest)) :=
  va_put (C := "StackedRows$Symbol") (T := tk_T7) (N := 3) hx hb hts fi_SY tk_y7 tk_o7 tk_n7 hown hK hP hD hS q0 he rfl 2 (by decide) (hts _ fl_SY_19) (fun _ h9 => h9) rfl (by decide +kernel) hn hfit hl hdg kk
theorem pf_SY_9 (hin : meth.name = "<init>") (hx : p.tables.exec = Jvm.exec) (hb : c.code = cc) (hts : ∀ w ∈ xt_T, w.before args s = true) (hown : s.vm.findClass "StackedRows$Symbol" = some m.cls) (hK : va_K g.1 vwCl (xg_t g) s) (hP : va_P g.1 vwCl ws H) (hD : va_D A ws) (hS : va_S A s.heap H locs) (q0 : Nat) {fs : List Value} (he : ws[q0]? = some (oc_o a 7 fs)) {v : Value} (hn : narrow (.array .int) v = v) (hfit : fits (.array .int) v = true) (hl : 0 < fs.length) (hdg : decode cc pc = .ok (.putfield 9, 3)) (kk : ∀ (H1 : Heap) (locs1 : List Loc), va_P g.1 vwCl (ws.set q0 (oc_o a 7 (fs.set 0 v))) H1 → va_D A (ws.set q0 (oc_o a 7 (fs.set 0 v))) → va_S A s.heap H1 locs1 → W p l e R s m args below meth c H1 locs1 cells slots Q (F0 m (pc + 3) ls rest)) : W p l e R s m args below meth c H locs cells slots Q (F0 m pc ls (v :: .ref a :: rest)) :=
  va_putF (C := "StackedRows$Symbol") (T := tk_T7) (N := 3) hx hb hts fi_SY tk_y7 tk_o7 tk_n7 hown hK hP hD hS q0 he rfl 0 (by decide) (hts _ fl_SY_9) (fun _ h9 => h9) rfl hin rfl (by decide +kernel) hn hfit hl hdg kk
theorem pf_TP_15 (hx : p.tables.exec = Jvm.exec) (hb : c.code = cc) (hts : ∀ w ∈ xt_T, w.before args s = true) (hown : s.vm.findClass "StackedRows$Tape" = some m.cls) (hK : va_K g.1 vwCl (xg_t g) s) (hP : va_P g.1 vwCl ws H) (hD : va_D A ws) (hS : va_S A s.heap H locs) (q0 : Nat) {fs : List Value} (he : ws[q0]? = some (oc_o a 8 fs)) {v : Value} (hn : narrow (.int) v = v) (hfit : fits (.int) v = true) (hl : 1 < fs.length) (hdg : decode cc pc = .ok (.putfield 15, 3)) (kk : ∀ (H1 : Heap) (locs1 : List Loc), va_P g.1 vwCl (ws.set q0 (oc_o a 8 (fs.set 1 v))) H1 → va_D A (ws.set q0 (oc_o a 8 (fs.set 1 v))) → va_S A s.heap H1 locs1 → W p l e R s m args below meth c H1 locs1 cells slots Q (F0 m (pc + 3) ls rest)) : W p l e R s m args below meth c H locs cells slots Q (F0 m pc ls (v :: .ref a :: rest)) :=
  va_put (C := "StackedRows$Tape") (T := tk_T8) (N := 2) hx hb hts fi_TP tk_y8 tk_o8 tk_n8 hown hK hP hD hS q0 he rfl 1 (by decide) (hts _ fl_TP_15) (fun _ h9 => h9) rfl (by decide +kernel) hn hfit hl hdg kk
theorem pf_TP_9 (hin : meth.name = "<init>") (hx : p.tables.exec = Jvm.exec) (hb : c.code = cc) (hts : ∀ w ∈ xt_T, w.before args s = true) (hown : s.vm.findClass "StackedRows$Tape" = some m.cls) (hK : va_K g.1 vwCl (xg_t g) s) (hP : va_P g.1 vwCl ws H) (hD : va_D A ws) (hS : va_S A s.heap H locs) (q0 : Nat) {fs : List Value} (he : ws[q0]? = some (oc_o a 8 fs)) {v : Value} (hn : narrow (.array .int) v = v) (hfit : fits (.array .int) v = true) (hl : 0 < fs.length) (hdg : decode cc pc = .ok (.putfield 9, 3)) (kk : ∀ (H1 : Heap) (locs1 : List Loc), va_P g.1 vwCl (ws.set q0 (oc_o a 8 (fs.set 0 v))) H1 → va_D A (ws.set q0 (oc_o a 8 (fs.set 0 v))) → va_S A s.heap H1 locs1 → W p l e R s m args below meth c H1 locs1 cells slots Q (F0 m (pc + 3) ls rest)) : W p l e R s m args below meth c H locs cells slots Q (F0 m pc ls (v :: .ref a :: rest)) :=
  va_putF (C := "StackedRows$Tape") (T := tk_T8) (N := 2) hx hb hts fi_TP tk_y8 tk_o8 tk_n8 hown hK hP hD hS q0 he rfl 0 (by decide) (hts _ fl_TP_9) (fun _ h9 => h9) rfl hin rfl (by decide +kernel) hn hfit hl hdg kk
theorem fl_TW_21 : Cond.fieldLink "StackedRows$TextWriter" 21 "StackedRows$TextWriter" "set" "LStackedRows$Letters;" ∈ xt_T := xt_in (List.mem_of_getElem? (i := 150) (by decide +kernel)) (by decide +kernel)
theorem pf_TW_21 (hx : p.tables.exec = Jvm.exec) (hb : c.code = cc) (hts : ∀ w ∈ xt_T, w.before args s = true) (hown : s.vm.findClass "StackedRows$TextWriter" = some m.cls) (hK : va_K g.1 vwCl (xg_t g) s) (hP : va_P g.1 vwCl ws H) (hD : va_D A ws) (hS : va_S A s.heap H locs) (q0 : Nat) {fs : List Value} (he : ws[q0]? = some (oc_o a 9 fs)) {v : Value} (hn : narrow (.object "StackedRows$Letters") v = v) (hfit : fits (.object "StackedRows$Letters") v = true) (hl : 1 < fs.length) (hdg : decode cc pc = .ok (.putfield 21, 3)) (kk : ∀ (H1 : Heap) (locs1 : List Loc), va_P g.1 vwCl (ws.set q0 (oc_o a 9 (fs.set 1 v))) H1 → va_D A (ws.set q0 (oc_o a 9 (fs.set 1 v))) → va_S A s.heap H1 locs1 → W p l e R s m args below meth c H1 locs1 cells slots Q (F0 m (pc + 3) ls rest)) : W p l e R s m args below meth c H locs cells slots Q (F0 m pc ls (v :: .ref a :: rest)) :=
  va_put (C := "StackedRows$TextWriter") (T := tk_T9) (N := 3) hx hb hts fi_TW tk_y9 tk_o9 tk_n9 hown hK hP hD hS q0 he rfl 1 (by decide) (hts _ fl_TW_21) (fun _ h9 => h9) rfl (by decide +kernel) hn hfit hl hdg kk
theorem fl_TW_24 : Cond.fieldLink "StackedRows$TextWriter" 24 "StackedRows$TextWriter" "half" "I" ∈ xt_T := xt_in (List.mem_of_getElem? (i := 151) (by decide +kernel)) (by decide +kernel)
theorem pf_TW_24 (hx : p.tables.exec = Jvm.exec) (hb : c.code = cc) (hts : ∀ w ∈ xt_T, w.before args s = true) (hown : s.vm.findClass "StackedRows$TextWriter" = some m.cls) (hK : va_K g.1 vwCl (xg_t g) s) (hP : va_P g.1 vwCl ws H) (hD : va_D A ws) (hS : va_S A s.heap H locs) (q0 : Nat) {fs : List Value} (he : ws[q0]? = some (oc_o a 9 fs)) {v : Value} (hn : narrow (.int) v = v) (hfit : fits (.int) v = true) (hl : 2 < fs.length) (hdg : decode cc pc = .ok (.putfield 24, 3)) (kk : ∀ (H1 : Heap) (locs1 : List Loc), va_P g.1 vwCl (ws.set q0 (oc_o a 9 (fs.set 2 v))) H1 → va_D A (ws.set q0 (oc_o a 9 (fs.set 2 v))) → va_S A s.heap H1 locs1 → W p l e R s m args below meth c H1 locs1 cells slots Q (F0 m (pc + 3) ls rest)) : W p l e R s m args below meth c H locs cells slots Q (F0 m pc ls (v :: .ref a :: rest)) :=
  va_put (C := "StackedRows$TextWriter") (T := tk_T9) (N := 3) hx hb hts fi_TW tk_y9 tk_o9 tk_n9 hown hK hP hD hS q0 he rfl 2 (by decide) (hts _ fl_TW_24) (fun _ h9 => h9) rfl (by decide +kernel) hn hfit hl hdg kk
theorem fl_TW_9 : Cond.fieldLink "StackedRows$TextWriter" 9 "StackedRows$TextWriter" "out" "LStackedRows$Codewords;" ∈ xt_T := xt_in (List.mem_of_getElem? (i := 149) (by decide +kernel)) (by decide +kernel)
theorem pf_TW_9 (hin : meth.name = "<init>") (hx : p.tables.exec = Jvm.exec) (hb : c.code = cc) (hts : ∀ w ∈ xt_T, w.before args s = true) (hown : s.vm.findClass "StackedRows$TextWriter" = some m.cls) (hK : va_K g.1 vwCl (xg_t g) s) (hP : va_P g.1 vwCl ws H) (hD : va_D A ws) (hS : va_S A s.heap H locs) (q0 : Nat) {fs : List Value} (he : ws[q0]? = some (oc_o a 9 fs)) {v : Value} (hn : narrow (.object "StackedRows$Codewords") v = v) (hfit : fits (.object "StackedRows$Codewords") v = true) (hl : 0 < fs.length) (hdg : decode cc pc = .ok (.putfield 9, 3)) (kk : ∀ (H1 : Heap) (locs1 : List Loc), va_P g.1 vwCl (ws.set q0 (oc_o a 9 (fs.set 0 v))) H1 → va_D A (ws.set q0 (oc_o a 9 (fs.set 0 v))) → va_S A s.heap H1 locs1 → W p l e R s m args below meth c H1 locs1 cells slots Q (F0 m (pc + 3) ls rest)) : W p l e R s m args below meth c H locs cells slots Q (F0 m pc ls (v :: .ref a :: rest)) :=
  va_putF (C := "StackedRows$TextWriter") (T := tk_T9) (N := 3) hx hb hts fi_TW tk_y9 tk_o9 tk_n9 hown hK hP hD hS q0 he rfl 0 (by decide) (hts _ fl_TW_9) (fun _ h9 => h9) rfl hin rfl (by decide +kernel) hn hfit hl hdg kk
theorem pf_WR_18 (hin : meth.name = "<init>") (hx : p.tables.exec = Jvm.exec) (hb : c.code = cc) (hts : ∀ w ∈ xt_T, w.before args s = true) (hown : s.vm.findClass "StackedRows$Writer" = some m.cls) (hK : va_K g.1 vwCl (xg_t g) s) (hP : va_P g.1 vwCl ws H) (hD : va_D A ws) (hS : va_S A s.heap H locs) (q0 : Nat) {fs : List Value} (he : ws[q0]? = some (oc_o a 10 fs)) {v : Value} (hn : narrow (.object "StackedRows$Codewords") v = v) (hfit : fits (.object "StackedRows$Codewords") v = true) (hl : 1 < fs.length) (hdg : decode cc pc = .ok (.putfield 18, 3)) (kk : ∀ (H1 : Heap) (locs1 : List Loc), va_P g.1 vwCl (ws.set q0 (oc_o a 10 (fs.set 1 v))) H1 → va_D A (ws.set q0 (oc_o a 10 (fs.set 1 v))) → va_S A s.heap H1 locs1 → W p l e R s m args below meth c H1 locs1 cells slots Q (F0 m (pc + 3) ls rest)) : W p l e R s m args below meth c H locs cells slots Q (F0 m pc ls (v :: .ref a :: rest)) :=
  va_putF (C := "StackedRows$Writer") (T := tk_T10) (N := 8) hx hb hts fi_WR tk_y10 tk_o10 tk_n10 hown hK hP hD hS q0 he rfl 1 (by decide) (hts _ fl_WR_18) (fun _ h9 => h9) rfl hin rfl (by decide +kernel) hn hfit hl hdg kk
theorem pf_WR_27 (hin : meth.name = "<init>") (hx : p.tables.exec = Jvm.exec) (hb : c.code = cc) (hts : ∀ w ∈ xt_T, w.before args s = true) (hown : s.vm.findClass "StackedRows$Writer" = some m.cls) (hK : va_K g.1 vwCl (xg_t g) s) (hP : va_P g.1 vwCl ws H) (hD : va_D A ws) (hS : va_S A s.heap H locs) (q0 : Nat) {fs : List Value} (he : ws[q0]? = some (oc_o a 10 fs)) {v : Value} (hn : narrow (.object "StackedRows$TextWriter") v = v) (hfit : fits (.object "StackedRows$TextWriter") v = true) (hl : 2 < fs.length) (hdg : decode cc pc = .ok (.putfield 27, 3)) (kk : ∀ (H1 : Heap) (locs1 : List Loc), va_P g.1 vwCl (ws.set q0 (oc_o a 10 (fs.set 2 v))) H1 → va_D A (ws.set q0 (oc_o a 10 (fs.set 2 v))) → va_S A s.heap H1 locs1 → W p l e R s m args below meth c H1 locs1 cells slots Q (F0 m (pc + 3) ls rest)) : W p l e R s m args below meth c H locs cells slots Q (F0 m pc ls (v :: .ref a :: rest)) :=
  va_putF (C := "StackedRows$Writer") (T := tk_T10) (N := 8) hx hb hts fi_WR tk_y10 tk_o10 tk_n10 hown hK hP hD hS q0 he rfl 2 (by decide) (hts _ fl_WR_27) (fun _ h9 => h9) rfl hin rfl (by decide +kernel) hn hfit hl hdg kk
theorem fl_WR_36 : Cond.fieldLink "StackedRows$Writer" 36 "StackedRows$Writer" "number" "LStackedRows$BigNumber;" ∈ xt_T := xt_in (List.mem_of_getElem? (i := 178) (by decide +kernel)) (by decide +kernel)
theorem pf_WR_36 (hin : meth.name = "<init>") (hx : p.tables.exec = Jvm.exec) (hb : c.code = cc) (hts : ∀ w ∈ xt_T, w.before args s = true) (hown : s.vm.findClass "StackedRows$Writer" = some m.cls) (hK : va_K g.1 vwCl (xg_t g) s) (hP : va_P g.1 vwCl ws H) (hD : va_D A ws) (hS : va_S A s.heap H locs) (q0 : Nat) {fs : List Value} (he : ws[q0]? = some (oc_o a 10 fs)) {v : Value} (hn : narrow (.object "StackedRows$BigNumber") v = v) (hfit : fits (.object "StackedRows$BigNumber") v = true) (hl : 3 < fs.length) (hdg : decode cc pc = .ok (.putfield 36, 3)) (kk : ∀ (H1 : Heap) (locs1 : List Loc), va_P g.1 vwCl (ws.set q0 (oc_o a 10 (fs.set 3 v))) H1 → va_D A (ws.set q0 (oc_o a 10 (fs.set 3 v))) → va_S A s.heap H1 locs1 → W p l e R s m args below meth c H1 locs1 cells slots Q (F0 m (pc + 3) ls rest)) : W p l e R s m args below meth c H locs cells slots Q (F0 m pc ls (v :: .ref a :: rest)) :=
  va_putF (C := "StackedRows$Writer") (T := tk_T10) (N := 8) hx hb hts fi_WR tk_y10 tk_o10 tk_n10 hown hK hP hD hS q0 he rfl 3 (by decide) (hts _ fl_WR_36) (fun _ h9 => h9) rfl hin rfl (by decide +kernel) hn hfit hl hdg kk
theorem pf_WR_40 (hin : meth.name = "<init>") (hx : p.tables.exec = Jvm.exec) (hb : c.code = cc) (hts : ∀ w ∈ xt_T, w.before args s = true) (hown : s.vm.findClass "StackedRows$Writer" = some m.cls) (hK : va_K g.1 vwCl (xg_t g) s) (hP : va_P g.1 vwCl ws H) (hD : va_D A ws) (hS : va_S A s.heap H locs) (q0 : Nat) {fs : List Value} (he : ws[q0]? = some (oc_o a 10 fs)) {v : Value} (hn : narrow (.array .int) v = v) (hfit : fits (.array .int) v = true) (hl : 4 < fs.length) (hdg : decode cc pc = .ok (.putfield 40, 3)) (kk : ∀ (H1 : Heap) (locs1 : List Loc), va_P g.1 vwCl (ws.set q0 (oc_o a 10 (fs.set 4 v))) H1 → va_D A (ws.set q0 (oc_o a 10 (fs.set 4 v))) → va_S A s.heap H1 locs1 → W p l e R s m args below meth c H1 locs1 cells slots Q (F0 m (pc + 3) ls rest)) : W p l e R s m args below meth c H locs cells slots Q (F0 m pc ls (v :: .ref a :: rest)) :=
  va_putF (C := "StackedRows$Writer") (T := tk_T10) (N := 8) hx hb hts fi_WR tk_y10 tk_o10 tk_n10 hown hK hP hD hS q0 he rfl 4 (by decide) (hts _ fl_WR_40) (fun _ h9 => h9) rfl hin rfl (by decide +kernel) hn hfit hl hdg kk
theorem pf_WR_44 (hin : meth.name = "<init>") (hx : p.tables.exec = Jvm.exec) (hb : c.code = cc) (hts : ∀ w ∈ xt_T, w.before args s = true) (hown : s.vm.findClass "StackedRows$Writer" = some m.cls) (hK : va_K g.1 vwCl (xg_t g) s) (hP : va_P g.1 vwCl ws H) (hD : va_D A ws) (hS : va_S A s.heap H locs) (q0 : Nat) {fs : List Value} (he : ws[q0]? = some (oc_o a 10 fs)) {v : Value} (hn : narrow (.array .int) v = v) (hfit : fits (.array .int) v = true) (hl : 5 < fs.length) (hdg : decode cc pc = .ok (.putfield 44, 3)) (kk : ∀ (H1 : Heap) (locs1 : List Loc), va_P g.1 vwCl (ws.set q0 (oc_o a 10 (fs.set 5 v))) H1 → va_D A (ws.set q0 (oc_o a 10 (fs.set 5 v))) → va_S A s.heap H1 locs1 → W p l e R s m args below meth c H1 locs1 cells slots Q (F0 m (pc + 3) ls rest)) : W p l e R s m args below meth c H locs cells slots Q (F0 m pc ls (v :: .ref a :: rest)) :=
  va_putF (C := "StackedRows$Writer") (T := tk_T10) (N := 8) hx hb hts fi_WR tk_y10 tk_o10 tk_n10 hown hK hP hD hS q0 he rfl 5 (by decide) (hts _ fl_WR_44) (fun _ h9 => h9) rfl hin rfl (by decide +kernel) hn hfit hl hdg kk
theorem fl_WR_47 : Cond.fieldLink "StackedRows$Writer" 47 "StackedRows$Writer" "way" "I" ∈ xt_T := xt_in (List.mem_of_getElem? (i := 181) (by decide +kernel)) (by decide +kernel)
theorem pf_WR_47 (hx : p.tables.exec = Jvm.exec) (hb : c.code = cc) (hts : ∀ w ∈ xt_T, w.before args s = true) (hown : s.vm.findClass "StackedRows$Writer" = some m.cls) (hK : va_K g.1 vwCl (xg_t g) s) (hP : va_P g.1 vwCl ws H) (hD : va_D A ws) (hS : va_S A s.heap H locs) (q0 : Nat) {fs : List Value} (he : ws[q0]? = some (oc_o a 10 fs)) {v : Value} (hn : narrow (.int) v = v) (hfit : fits (.int) v = true) (hl : 6 < fs.length) (hdg : decode cc pc = .ok (.putfield 47, 3)) (kk : ∀ (H1 : Heap) (locs1 : List Loc), va_P g.1 vwCl (ws.set q0 (oc_o a 10 (fs.set 6 v))) H1 → va_D A (ws.set q0 (oc_o a 10 (fs.set 6 v))) → va_S A s.heap H1 locs1 → W p l e R s m args below meth c H1 locs1 cells slots Q (F0 m (pc + 3) ls rest)) : W p l e R s m args below meth c H locs cells slots Q (F0 m pc ls (v :: .ref a :: rest)) :=
  va_put (C := "StackedRows$Writer") (T := tk_T10) (N := 8) hx hb hts fi_WR tk_y10 tk_o10 tk_n10 hown hK hP hD hS q0 he rfl 6 (by decide) (hts _ fl_WR_47) (fun _ h9 => h9) rfl (by decide +kernel) hn hfit hl hdg kk
theorem pf_WR_51 (hx : p.tables.exec = Jvm.exec) (hb : c.code = cc) (hts : ∀ w ∈ xt_T, w.before args s = true) (hown : s.vm.findClass "StackedRows$Writer" = some m.cls) (hK : va_K g.1 vwCl (xg_t g) s) (hP : va_P g.1 vwCl ws H) (hD : va_D A ws) (hS : va_S A s.heap H locs) (q0 : Nat) {fs : List Value} (he : ws[q0]? = some (oc_o a 10 fs)) {v : Value} (hn : narrow (.boolean) v = v) (hfit : fits (.boolean) v = true) (hl : 7 < fs.length) (hdg : decode cc pc = .ok (.putfield 51, 3)) (kk : ∀ (H1 : Heap) (locs1 : List Loc), va_P g.1 vwCl (ws.set q0 (oc_o a 10 (fs.set 7 v))) H1 → va_D A (ws.set q0 (oc_o a 10 (fs.set 7 v))) → va_S A s.heap H1 locs1 → W p l e R s m args below meth c H1 locs1 cells slots Q (F0 m (pc + 3) ls rest)) : W p l e R s m args below meth c H locs cells slots Q (F0 m pc ls (v :: .ref a :: rest)) :=
  va_put (C := "StackedRows$Writer") (T := tk_T10) (N := 8) hx hb hts fi_WR tk_y10 tk_o10 tk_n10 hown hK hP hD hS q0 he rfl 7 (by decide) (hts _ fl_WR_51) (fun _ h9 => h9) rfl (by decide +kernel) hn hfit hl hdg kk
theorem pf_WR_9 (hin : meth.name = "<init>") (hx : p.tables.exec = Jvm.exec) (hb : c.code = cc) (hts : ∀ w ∈ xt_T, w.before args s = true) (hown : s.vm.findClass "StackedRows$Writer" = some m.cls) (hK : va_K g.1 vwCl (xg_t g) s) (hP : va_P g.1 vwCl ws H) (hD : va_D A ws) (hS : va_S A s.heap H locs) (q0 : Nat) {fs : List Value} (he : ws[q0]? = some (oc_o a 10 fs)) {v : Value} (hn : narrow (.object "StackedRows$Tape") v = v) (hfit : fits (.object "StackedRows$Tape") v = true) (hl : 0 < fs.length) (hdg : decode cc pc = .ok (.putfield 9, 3)) (kk : ∀ (H1 : Heap) (locs1 : List Loc), va_P g.1 vwCl (ws.set q0 (oc_o a 10 (fs.set 0 v))) H1 → va_D A (ws.set q0 (oc_o a 10 (fs.set 0 v))) → va_S A s.heap H1 locs1 → W p l e R s m args below meth c H1 locs1 cells slots Q (F0 m (pc + 3) ls rest)) : W p l e R s m args below meth c H locs cells slots Q (F0 m pc ls (v :: .ref a :: rest)) :=
  va_putF (C := "StackedRows$Writer") (T := tk_T10) (N := 8) hx hb hts fi_WR tk_y10 tk_o10 tk_n10 hown hK hP hD hS q0 he rfl 0 (by decide) (hts _ fl_WR_9) (fun _ h9 => h9) rfl hin rfl (by decide +kernel) hn hfit hl hdg kk
theorem pf_SR_12 (hin : meth.name = "<init>") (hx : p.tables.exec = Jvm.exec) (hb : c.code = cc) (hts : ∀ w ∈ xt_T, w.before args s = true) (hown : s.vm.findClass "StackedRows" = some m.cls) (hK : va_K g.1 vwCl (xg_t g) s) (hP : va_P g.1 vwCl ws H) (hD : va_D A ws) (hS : va_S A s.heap H locs) (q0 : Nat) {fs : List Value} (he : ws[q0]? = some (oc_o a 0 fs)) {v : Value} (hn : narrow (.object "StackedRows$Tape") v = v) (hfit : fits (.object "StackedRows$Tape") v = true) (hl : 0 < fs.length) (hdg : decode cc pc = .ok (.putfield 12, 3)) (kk : ∀ (H1 : Heap) (locs1 : List Loc), va_P g.1 vwCl (ws.set q0 (oc_o a 0 (fs.set 0 v))) H1 → va_D A (ws.set q0 (oc_o a 0 (fs.set 0 v))) → va_S A s.heap H1 locs1 → W p l e R s m args below meth c H1 locs1 cells slots Q (F0 m (pc + 3) ls rest)) : W p l e R s m args below meth c H locs cells slots Q (F0 m pc ls (v :: .ref a :: rest)) :=
  va_putF (C := "StackedRows") (T := tk_T0) (N := 7) hx hb hts fi_SR tk_y0 tk_o0 tk_n0 hown hK hP hD hS q0 he rfl 0 (by decide) (hts _ fl_SR_12) (fun _ h9 => h9) rfl hin rfl (by decide +kernel) hn hfit hl hdg kk
theorem pf_SR_21 (hin : meth.name = "<init>") (hx : p.tables.exec = Jvm.exec) (hb : c.code = cc) (hts : ∀ w ∈ xt_T, w.before args s = true) (hown : s.vm.findClass "StackedRows" = some m.cls) (hK : va_K g.1 vwCl (xg_t g) s) (hP : va_P g.1 vwCl ws H) (hD : va_D A ws) (hS : va_S A s.heap H locs) (q0 : Nat) {fs : List Value} (he : ws[q0]? = some (oc_o a 0 fs)) {v : Value} (hn : narrow (.object "StackedRows$Writer") v = v) (hfit : fits (.object "StackedRows$Writer") v = true) (hl : 1 < fs.length) (hdg : decode cc pc = .ok (.putfield 21, 3)) (kk : ∀ (H1 : Heap) (locs1 : List Loc), va_P g.1 vwCl (ws.set q0 (oc_o a 0 (fs.set 1 v))) H1 → va_D A (ws.set q0 (oc_o a 0 (fs.set 1 v))) → va_S A s.heap H1 locs1 → W p l e R s m args below meth c H1 locs1 cells slots Q (F0 m (pc + 3) ls rest)) : W p l e R s m args below meth c H locs cells slots Q (F0 m pc ls (v :: .ref a :: rest)) :=
  va_putF (C := "StackedRows") (T := tk_T0) (N := 7) hx hb hts fi_SR tk_y0 tk_o0 tk_n0 hown hK hP hD hS q0 he rfl 1 (by decide) (hts _ fl_SR_21) (fun _ h9 => h9) rfl hin rfl (by decide +kernel) hn hfit hl hdg kk
theorem pf_SR_28 (hin : meth.name = "<init>") (hx : p.tables.exec = Jvm.exec) (hb : c.code = cc) (hts : ∀ w ∈ xt_T, w.before args s = true) (hown : s.vm.findClass "StackedRows" = some m.cls) (hK : va_K g.1 vwCl (xg_t g) s) (hP : va_P g.1 vwCl ws H) (hD : va_D A ws) (hS : va_S A s.heap H locs) (q0 : Nat) {fs : List Value} (he : ws[q0]? = some (oc_o a 0 fs)) {v : Value} (hn : narrow (.object "StackedRows$Checks") v = v) (hfit : fits (.object "StackedRows$Checks") v = true) (hl : 2 < fs.length) (hdg : decode cc pc = .ok (.putfield 28, 3)) (kk : ∀ (H1 : Heap) (locs1 : List Loc), va_P g.1 vwCl (ws.set q0 (oc_o a 0 (fs.set 2 v))) H1 → va_D A (ws.set q0 (oc_o a 0 (fs.set 2 v))) → va_S A s.heap H1 locs1 → W p l e R s m args below meth c H1 locs1 cells slots Q (F0 m (pc + 3) ls rest)) : W p l e R s m args below meth c H locs cells slots Q (F0 m pc ls (v :: .ref a :: rest)) :=
  va_putF (C := "StackedRows") (T := tk_T0) (N := 7) hx hb hts fi_SR tk_y0 tk_o0 tk_n0 hown hK hP hD hS q0 he rfl 2 (by decide) (hts _ fl_SR_28) (fun _ h9 => h9) rfl hin rfl (by decide +kernel) hn hfit hl hdg kk
theorem pf_SR_35 (hin : meth.name = "<init>") (hx : p.tables.exec = Jvm.exec) (hb : c.code = cc) (hts : ∀ w ∈ xt_T, w.before args s = true) (hown : s.vm.findClass "StackedRows" = some m.cls) (hK : va_K g.1 vwCl (xg_t g) s) (hP : va_P g.1 vwCl ws H) (hD : va_D A ws) (hS : va_S A s.heap H locs) (q0 : Nat) {fs : List Value} (he : ws[q0]? = some (oc_o a 0 fs)) {v : Value} (hn : narrow (.object "StackedRows$Symbol") v = v) (hfit : fits (.object "StackedRows$Symbol") v = true) (hl : 3 < fs.length) (hdg : decode cc pc = .ok (.putfield 35, 3)) (kk : ∀ (H1 : Heap) (locs1 : List Loc), va_P g.1 vwCl (ws.set q0 (oc_o a 0 (fs.set 3 v))) H1 → va_D A (ws.set q0 (oc_o a 0 (fs.set 3 v))) → va_S A s.heap H1 locs1 → W p l e R s m args below meth c H1 locs1 cells slots Q (F0 m (pc + 3) ls rest)) : W p l e R s m args below meth c H locs cells slots Q (F0 m pc ls (v :: .ref a :: rest)) :=
  va_putF (C := "StackedRows") (T := tk_T0) (N := 7) hx hb hts fi_SR tk_y0 tk_o0 tk_n0 hown hK hP hD hS q0 he rfl 3 (by decide) (hts _ fl_SR_35) (fun _ h9 => h9) rfl hin rfl (by decide +kernel) hn hfit hl hdg kk
theorem pf_SR_39 (hin : meth.name = "<init>") (hx : p.tables.exec = Jvm.exec) (hb : c.code = cc) (hts : ∀ w ∈ xt_T, w.before args s = true) (hown : s.vm.findClass "StackedRows" = some m.cls) (hK : va_K g.1 vwCl (xg_t g) s) (hP : va_P g.1 vwCl ws H) (hD : va_D A ws) (hS : va_S A s.heap H locs) (q0 : Nat) {fs : List Value} (he : ws[q0]? = some (oc_o a 0 fs)) {v : Value} (hn : narrow (.array .int) v = v) (hfit : fits (.array .int) v = true) (hl : 5 < fs.length) (hdg : decode cc pc = .ok (.putfield 39, 3)) (kk : ∀ (H1 : Heap) (locs1 : List Loc), va_P g.1 vwCl (ws.set q0 (oc_o a 0 (fs.set 5 v))) H1 → va_D A (ws.set q0 (oc_o a 0 (fs.set 5 v))) → va_S A s.heap H1 locs1 → W p l e R s m args below meth c H1 locs1 cells slots Q (F0 m (pc + 3) ls rest)) : W p l e R s m args below meth c H locs cells slots Q (F0 m pc ls (v :: .ref a :: rest)) :=
  va_putF (C := "StackedRows") (T := tk_T0) (N := 7) hx hb hts fi_SR tk_y0 tk_o0 tk_n0 hown hK hP hD hS q0 he rfl 5 (by decide) (hts _ fl_SR_39) (fun _ h9 => h9) rfl hin rfl (by decide +kernel) hn hfit hl hdg kk
theorem fl_SR_48 : Cond.fieldLink "StackedRows" 48 "StackedRows" "solver" "LStackedRows$Solver;" ∈ xt_T := xt_in (List.mem_of_getElem? (i := 334) (by decide +kernel)) (by decide +kernel)
theorem pf_SR_48 (hin : meth.name = "<init>") (hx : p.tables.exec = Jvm.exec) (hb : c.code = cc) (hts : ∀ w ∈ xt_T, w.before args s = true) (hown : s.vm.findClass "StackedRows" = some m.cls) (hK : va_K g.1 vwCl (xg_t g) s) (hP : va_P g.1 vwCl ws H) (hD : va_D A ws) (hS : va_S A s.heap H locs) (q0 : Nat) {fs : List Value} (he : ws[q0]? = some (oc_o a 0 fs)) {v : Value} (hn : narrow (.object "StackedRows$Solver") v = v) (hfit : fits (.object "StackedRows$Solver") v = true) (hl : 4 < fs.length) (hdg : decode cc pc = .ok (.putfield 48, 3)) (kk : ∀ (H1 : Heap) (locs1 : List Loc), va_P g.1 vwCl (ws.set q0 (oc_o a 0 (fs.set 4 v))) H1 → va_D A (ws.set q0 (oc_o a 0 (fs.set 4 v))) → va_S A s.heap H1 locs1 → W p l e R s m args below meth c H1 locs1 cells slots Q (F0 m (pc + 3) ls rest)) : W p l e R s m args below meth c H locs cells slots Q (F0 m pc ls (v :: .ref a :: rest)) :=
  va_putF (C := "StackedRows") (T := tk_T0) (N := 7) hx hb hts fi_SR tk_y0 tk_o0 tk_n0 hown hK hP hD hS q0 he rfl 4 (by decide) (hts _ fl_SR_48) (fun _ h9 => h9) rfl hin rfl (by decide +kernel) hn hfit hl hdg kk
theorem pf_SR_52 (hin : meth.name = "<init>") (hx : p.tables.exec = Jvm.exec) (hb : c.code = cc) (hts : ∀ w ∈ xt_T, w.before args s = true) (hown : s.vm.findClass "StackedRows" = some m.cls) (hK : va_K g.1 vwCl (xg_t g) s) (hP : va_P g.1 vwCl ws H) (hD : va_D A ws) (hS : va_S A s.heap H locs) (q0 : Nat) {fs : List Value} (he : ws[q0]? = some (oc_o a 0 fs)) {v : Value} (hn : narrow (.array .int) v = v) (hfit : fits (.array .int) v = true) (hl : 6 < fs.length) (hdg : decode cc pc = .ok (.putfield 52, 3)) (kk : ∀ (H1 : Heap) (locs1 : List Loc), va_P g.1 vwCl (ws.set q0 (oc_o a 0 (fs.set 6 v))) H1 → va_D A (ws.set q0 (oc_o a 0 (fs.set 6 v))) → va_S A s.heap H1 locs1 → W p l e R s m args below meth c H1 locs1 cells slots Q (F0 m (pc + 3) ls rest)) : W p l e R s m args below meth c H locs cells slots Q (F0 m pc ls (v :: .ref a :: rest)) :=
  va_putF (C := "StackedRows") (T := tk_T0) (N := 7) hx hb hts fi_SR tk_y0 tk_o0 tk_n0 hown hK hP hD hS q0 he rfl 6 (by decide) (hts _ fl_SR_52) (fun _ h9 => h9) rfl hin rfl (by decide +kernel) hn hfit hl hdg kk
theorem fl_MO_102 : Cond.fieldLink "StackedRowsModel" 102 "StackedRowsModel" "set" "I" ∈ xt_T := xt_in (List.mem_of_getElem? (i := 1070) (by decide +kernel)) (by decide +kernel)
theorem pf_MO_102 (hx : p.tables.exec = Jvm.exec) (hb : c.code = cc) (hts : ∀ w ∈ xt_T, w.before args s = true) (hown : s.vm.findClass "StackedRowsModel" = some m.cls) (hK : va_K g.1 vwCl (xg_t g) s) (hP : va_P g.1 vwCl ws H) (hD : va_D A ws) (hS : va_S A s.heap H locs) (q0 : Nat) {fs : List Value} (he : ws[q0]? = some (oc_o a 11 fs)) {v : Value} (hn : narrow (.int) v = v) (hfit : fits (.int) v = true) (hl : 5 < fs.length) (hdg : decode cc pc = .ok (.putfield 102, 3)) (kk : ∀ (H1 : Heap) (locs1 : List Loc), va_P g.1 vwCl (ws.set q0 (oc_o a 11 (fs.set 5 v))) H1 → va_D A (ws.set q0 (oc_o a 11 (fs.set 5 v))) → va_S A s.heap H1 locs1 → W p l e R s m args below meth c H1 locs1 cells slots Q (F0 m (pc + 3) ls rest)) : W p l e R s m args below meth c H locs cells slots Q (F0 m pc ls (v :: .ref a :: rest)) :=
  va_put (C := "StackedRowsModel") (T := tk_T11) (N := 32) hx hb hts fi_MO tk_y11 tk_o11 tk_n11 hown hK hP hD hS q0 he rfl 5 (by decide) (hts _ fl_MO_102) (fun _ h9 => h9) rfl (by decide +kernel) hn hfit hl hdg kk
theorem fl_MO_13 : Cond.fieldLink "StackedRowsModel" 13 "StackedRowsModel" "words" "[I" ∈ xt_T := xt_in (List.mem_of_getElem? (i := 1068) (by decide +kernel)) (by decide +kernel)
theorem pf_MO_13 (hin : meth.name = "<init>") (hx : p.tables.exec = Jvm.exec) (hb : c.code = cc) (hts : ∀ w ∈ xt_T, w.before args s = true) (hown : s.vm.findClass "StackedRowsModel" = some m.cls) (hK : va_K g.1 vwCl (xg_t g) s) (hP : va_P g.1 vwCl ws H) (hD : va_D A ws) (hS : va_S A s.heap H locs) (q0 : Nat) {fs : List Value} (he : ws[q0]? = some (oc_o a 11 fs)) {v : Value} (hn : narrow (.array .int) v = v) (hfit : fits (.array .int) v = true) (hl : 3 < fs.length) (hdg : decode cc pc = .ok (.putfield 13, 3)) (kk : ∀ (H1 : Heap) (locs1 : List Loc), va_P g.1 vwCl (ws.set q0 (oc_o a 11 (fs.set 3 v))) H1 → va_D A (ws.set q0 (oc_o a 11 (fs.set 3 v))) → va_S A s.heap H1 locs1 → W p l e R s m args below meth c H1 locs1 cells slots Q (F0 m (pc + 3) ls rest)) : W p l e R s m args below meth c H locs cells slots Q (F0 m pc ls (v :: .ref a :: rest)) :=
  va_putF (C := "StackedRowsModel") (T := tk_T11) (N := 32) hx hb hts fi_MO tk_y11 tk_o11 tk_n11 hown hK hP hD hS q0 he rfl 3 (by decide) (hts _ fl_MO_13) (fun _ h9 => h9) rfl hin rfl (by decide +kernel) hn hfit hl hdg kk
theorem pf_MO_134 (hx : p.tables.exec = Jvm.exec) (hb : c.code = cc) (hts : ∀ w ∈ xt_T, w.before args s = true) (hown : s.vm.findClass "StackedRowsModel" = some m.cls) (hK : va_K g.1 vwCl (xg_t g) s) (hP : va_P g.1 vwCl ws H) (hD : va_D A ws) (hS : va_S A s.heap H locs) (q0 : Nat) {fs : List Value} (he : ws[q0]? = some (oc_o a 11 fs)) {v : Value} (hn : narrow (.int) v = v) (hfit : fits (.int) v = true) (hl : 9 < fs.length) (hdg : decode cc pc = .ok (.putfield 134, 3)) (kk : ∀ (H1 : Heap) (locs1 : List Loc), va_P g.1 vwCl (ws.set q0 (oc_o a 11 (fs.set 9 v))) H1 → va_D A (ws.set q0 (oc_o a 11 (fs.set 9 v))) → va_S A s.heap H1 locs1 → W p l e R s m args below meth c H1 locs1 cells slots Q (F0 m (pc + 3) ls rest)) : W p l e R s m args below meth c H locs cells slots Q (F0 m pc ls (v :: .ref a :: rest)) :=
  va_put (C := "StackedRowsModel") (T := tk_T11) (N := 32) hx hb hts fi_MO tk_y11 tk_o11 tk_n11 hown hK hP hD hS q0 he rfl 9 (by decide) (hts _ fl_MO_134) (fun _ h9 => h9) rfl (by decide +kernel) hn hfit hl hdg kk
theorem pf_MO_137 (hx : p.tables.exec = Jvm.exec) (hb : c.code = cc) (hts : ∀ w ∈ xt_T, w.before args s = true) (hown : s.vm.findClass "StackedRowsModel" = some m.cls) (hK : va_K g.1 vwCl (xg_t g) s) (hP : va_P g.1 vwCl ws H) (hD : va_D A ws) (hS : va_S A s.heap H locs) (q0 : Nat) {fs : List Value} (he : ws[q0]? = some (oc_o a 11 fs)) {v : Value} (hn : narrow (.int) v = v) (hfit : fits (.int) v = true) (hl : 10 < fs.length) (hdg : decode cc pc = .ok (.putfield 137, 3)) (kk : ∀ (H1 : Heap) (locs1 : List Loc), va_P g.1 vwCl (ws.set q0 (oc_o a 11 (fs.set 10 v))) H1 → va_D A (ws.set q0 (oc_o a 11 (fs.set 10 v))) → va_S A s.heap H1 locs1 → W p l e R s m args below meth c H1 locs1 cells slots Q (F0 m (pc + 3) ls rest)) : W p l e R s m args below meth c H locs cells slots Q (F0 m pc ls (v :: .ref a :: rest)) :=
  va_put (C := "StackedRowsModel") (T := tk_T11) (N := 32) hx hb hts fi_MO tk_y11 tk_o11 tk_n11 hown hK hP hD hS q0 he rfl 10 (by decide) (hts _ fl_MO_137) (fun _ h9 => h9) rfl (by decide +kernel) hn hfit hl hdg kk
theorem fl_MO_16 : Cond.fieldLink "StackedRowsModel" 16 "StackedRowsModel" "mixed" "[I" ∈ xt_T := xt_in (List.mem_of_getElem? (i := 1072) (by decide +kernel)) (by decide +kernel)
theorem pf_MO_16 (hin : meth.name = "<init>") (hx : p.tables.exec = Jvm.exec) (hb : c.code = cc) (hts : ∀ w ∈ xt_T, w.before args s = true) (hown : s.vm.findClass "StackedRowsModel" = some m.cls) (hK : va_K g.1 vwCl (xg_t g) s) (hP : va_P g.1 vwCl ws H) (hD : va_D A ws) (hS : va_S A s.heap H locs) (q0 : Nat) {fs : List Value} (he : ws[q0]? = some (oc_o a 11 fs)) {v : Value} (hn : narrow (.array .int) v = v) (hfit : fits (.array .int) v = true) (hl : 7 < fs.length) (hdg : decode cc pc = .ok (.putfield 16, 3)) (kk : ∀ (H1 : Heap) (locs1 : List Loc), va_P g.1 vwCl (ws.set q0 (oc_o a 11 (fs.set 7 v))) H1 → va_D A (ws.set q0 (oc_o a 11 (fs.set 7 v))) → va_S A s.heap H1 locs1 → W p l e R s m args below meth c H1 locs1 cells slots Q (F0 m (pc + 3) ls rest)) : W p l e R s m args below meth c H locs cells slots Q (F0 m pc ls (v :: .ref a :: rest)) :=
  va_putF (C := "StackedRowsModel") (T := tk_T11) (N := 32) hx hb hts fi_MO tk_y11 tk_o11 tk_n11 hown hK hP hD hS q0 he rfl 7 (by decide) (hts _ fl_MO_16) (fun _ h9 => h9) rfl hin rfl (by decide +kernel) hn hfit hl hdg kk
theorem fl_MO_19 : Cond.fieldLink "StackedRowsModel" 19 "StackedRowsModel" "signs" "[I" ∈ xt_T := xt_in (List.mem_of_getElem? (i := 1073) (by decide +kernel)) (by decide +kernel)
theorem pf_MO_19 (hin : meth.name = "<init>") (hx : p.tables.exec = Jvm.exec) (hb : c.code = cc) (hts : ∀ w ∈ xt_T, w.before args s = true) (hown : s.vm.findClass "StackedRowsModel" = some m.cls) (hK : va_K g.1 vwCl (xg_t g) s) (hP : va_P g.1 vwCl ws H) (hD : va_D A ws) (hS : va_S A s.heap H locs) (q0 : Nat) {fs : List Value} (he : ws[q0]? = some (oc_o a 11 fs)) {v : Value} (hn : narrow (.array .int) v = v) (hfit : fits (.array .int) v = true) (hl : 8 < fs.length) (hdg : decode cc pc = .ok (.putfield 19, 3)) (kk : ∀ (H1 : Heap) (locs1 : List Loc), va_P g.1 vwCl (ws.set q0 (oc_o a 11 (fs.set 8 v))) H1 → va_D A (ws.set q0 (oc_o a 11 (fs.set 8 v))) → va_S A s.heap H1 locs1 → W p l e R s m args below meth c H1 locs1 cells slots Q (F0 m (pc + 3) ls rest)) : W p l e R s m args below meth c H locs cells slots Q (F0 m pc ls (v :: .ref a :: rest)) :=
  va_putF (C := "StackedRowsModel") (T := tk_T11) (N := 32) hx hb hts fi_MO tk_y11 tk_o11 tk_n11 hown hK hP hD hS q0 he rfl 8 (by decide) (hts _ fl_MO_19) (fun _ h9 => h9) rfl hin rfl (by decide +kernel) hn hfit hl hdg kk
theorem pf_MO_22 (hin : meth.name = "<init>") (hx : p.tables.exec = Jvm.exec) (hb : c.code = cc) (hts : ∀ w ∈ xt_T, w.before args s = true) (hown : s.vm.findClass "StackedRowsModel" = some m.cls) (hK : va_K g.1 vwCl (xg_t g) s) (hP : va_P g.1 vwCl ws H) (hD : va_D A ws) (hS : va_S A s.heap H locs) (q0 : Nat) {fs : List Value} (he : ws[q0]? = some (oc_o a 11 fs)) {v : Value} (hn : narrow (.array .int) v = v) (hfit : fits (.array .int) v = true) (hl : 11 < fs.length) (hdg : decode cc pc = .ok (.putfield 22, 3)) (kk : ∀ (H1 : Heap) (locs1 : List Loc), va_P g.1 vwCl (ws.set q0 (oc_o a 11 (fs.set 11 v))) H1 → va_D A (ws.set q0 (oc_o a 11 (fs.set 11 v))) → va_S A s.heap H1 locs1 → W p l e R s m args below meth c H1 locs1 cells slots Q (F0 m (pc + 3) ls rest)) : W p l e R s m args below meth c H locs cells slots Q (F0 m pc ls (v :: .ref a :: rest)) :=
  va_putF (C := "StackedRowsModel") (T := tk_T11) (N := 32) hx hb hts fi_MO tk_y11 tk_o11 tk_n11 hown hK hP hD hS q0 he rfl 11 (by decide) (hts _ fl_MO_22) (fun _ h9 => h9) rfl hin rfl (by decide +kernel) hn hfit hl hdg kk
theorem pf_MO_25 (hin : meth.name = "<init>") (hx : p.tables.exec = Jvm.exec) (hb : c.code = cc) (hts : ∀ w ∈ xt_T, w.before args s = true) (hown : s.vm.findClass "StackedRowsModel" = some m.cls) (hK : va_K g.1 vwCl (xg_t g) s) (hP : va_P g.1 vwCl ws H) (hD : va_D A ws) (hS : va_S A s.heap H locs) (q0 : Nat) {fs : List Value} (he : ws[q0]? = some (oc_o a 11 fs)) {v : Value} (hn : narrow (.array .int) v = v) (hfit : fits (.array .int) v = true) (hl : 16 < fs.length) (hdg : decode cc pc = .ok (.putfield 25, 3)) (kk : ∀ (H1 : Heap) (locs1 : List Loc), va_P g.1 vwCl (ws.set q0 (oc_o a 11 (fs.set 16 v))) H1 → va_D A (ws.set q0 (oc_o a 11 (fs.set 16 v))) → va_S A s.heap H1 locs1 → W p l e R s m args below meth c H1 locs1 cells slots Q (F0 m (pc + 3) ls rest)) : W p l e R s m args below meth c H locs cells slots Q (F0 m pc ls (v :: .ref a :: rest)) :=
  va_putF (C := "StackedRowsModel") (T := tk_T11) (N := 32) hx hb hts fi_MO tk_y11 tk_o11 tk_n11 hown hK hP hD hS q0 he rfl 16 (by decide) (hts _ fl_MO_25) (fun _ h9 => h9) rfl hin rfl (by decide +kernel) hn hfit hl hdg kk
theorem fl_MO_28 : Cond.fieldLink "StackedRowsModel" 28 "StackedRowsModel" "lost" "[Z" ∈ xt_T := xt_in (List.mem_of_getElem? (i := 1082) (by decide +kernel)) (by decide +kernel)
theorem pf_MO_28 (hin : meth.name = "<init>") (hx : p.tables.exec = Jvm.exec) (hb : c.code = cc) (hts : ∀ w ∈ xt_T, w.before args s = true) (hown : s.vm.findClass "StackedRowsModel" = some m.cls) (hK : va_K g.1 vwCl (xg_t g) s) (hP : va_P g.1 vwCl ws H) (hD : va_D A ws) (hS : va_S A s.heap H locs) (q0 : Nat) {fs : List Value} (he : ws[q0]? = some (oc_o a 11 fs)) {v : Value} (hn : narrow (.array .boolean) v = v) (hfit : fits (.array .boolean) v = true) (hl : 17 < fs.length) (hdg : decode cc pc = .ok (.putfield 28, 3)) (kk : ∀ (H1 : Heap) (locs1 : List Loc), va_P g.1 vwCl (ws.set q0 (oc_o a 11 (fs.set 17 v))) H1 → va_D A (ws.set q0 (oc_o a 11 (fs.set 17 v))) → va_S A s.heap H1 locs1 → W p l e R s m args below meth c H1 locs1 cells slots Q (F0 m (pc + 3) ls rest)) : W p l e R s m args below meth c H locs cells slots Q (F0 m pc ls (v :: .ref a :: rest)) :=
  va_putF (C := "StackedRowsModel") (T := tk_T11) (N := 32) hx hb hts fi_MO tk_y11 tk_o11 tk_n11 hown hK hP hD hS q0 he rfl 17 (by decide) (hts _ fl_MO_28) (fun _ h9 => h9) rfl hin rfl (by decide +kernel) hn hfit hl hdg kk
theorem pf_MO_32 (hin : meth.name = "<init>") (hx : p.tables.exec = Jvm.exec) (hb : c.code = cc) (hts : ∀ w ∈ xt_T, w.before args s = true) (hown : s.vm.findClass "StackedRowsModel" = some m.cls) (hK : va_K g.1 vwCl (xg_t g) s) (hP : va_P g.1 vwCl ws H) (hD : va_D A ws) (hS : va_S A s.heap H locs) (q0 : Nat) {fs : List Value} (he : ws[q0]? = some (oc_o a 11 fs)) {v : Value} (hn : narrow (.array .int) v = v) (hfit : fits (.array .int) v = true) (hl : 18 < fs.length) (hdg : decode cc pc = .ok (.putfield 32, 3)) (kk : ∀ (H1 : Heap) (locs1 : List Loc), va_P g.1 vwCl (ws.set q0 (oc_o a 11 (fs.set 18 v))) H1 → va_D A (ws.set q0 (oc_o a 11 (fs.set 18 v))) → va_S A s.heap H1 locs1 → W p l e R s m args below meth c H1 locs1 cells slots Q (F0 m (pc + 3) ls rest)) : W p l e R s m args below meth c H locs cells slots Q (F0 m pc ls (v :: .ref a :: rest)) :=
  va_putF (C := "StackedRowsModel") (T := tk_T11) (N := 32) hx hb hts fi_MO tk_y11 tk_o11 tk_n11 hown hK hP hD hS q0 he rfl 18 (by decide) (hts _ fl_MO_32) (fun _ h9 => h9) rfl hin rfl (by decide +kernel) hn hfit hl hdg kk
theorem fl_MO_35 : Cond.fieldLink "StackedRowsModel" 35 "StackedRowsModel" "sums" "[I" ∈ xt_T := xt_in (List.mem_of_getElem? (i := 1084) (by decide +kernel)) (by decide +kernel)
theorem pf_MO_35 (hin : meth.name = "<init>") (hx : p.tables.exec = Jvm.exec) (hb : c.code = cc) (hts : ∀ w ∈ xt_T, w.before args s = true) (hown : s.vm.findClass "StackedRowsModel" = some m.cls) (hK : va_K g.1 vwCl (xg_t g) s) (hP : va_P g.1 vwCl ws H) (hD : va_D A ws) (hS : va_S A s.heap H locs) (q0 : Nat) {fs : List Value} (he : ws[q0]? = some (oc_o a 11 fs)) {v : Value} (hn : narrow (.array .int) v = v) (hfit : fits (.array .int) v = true) (hl : 19 < fs.length) (hdg : decode cc pc = .ok (.putfield 35, 3)) (kk : ∀ (H1 : Heap) (locs1 : List Loc), va_P g.1 vwCl (ws.set q0 (oc_o a 11 (fs.set 19 v))) H1 → va_D A (ws.set q0 (oc_o a 11 (fs.set 19 v))) → va_S A s.heap H1 locs1 → W p l e R s m args below meth c H1 locs1 cells slots Q (F0 m (pc + 3) ls rest)) : W p l e R s m args below meth c H locs cells slots Q (F0 m pc ls (v :: .ref a :: rest)) :=
  va_putF (C := "StackedRowsModel") (T := tk_T11) (N := 32) hx hb hts fi_MO tk_y11 tk_o11 tk_n11 hown hK hP hD hS q0 he rfl 19 (by decide) (hts _ fl_MO_35) (fun _ h9 => h9) rfl hin rfl (by decide +kernel) hn hfit hl hdg kk
theorem fl_MO_38 : Cond.fieldLink "StackedRowsModel" 38 "StackedRowsModel" "counted" "[I" ∈ xt_T := xt_in (List.mem_of_getElem? (i := 1085) (by decide +kernel)) (by decide +kernel)
theorem pf_MO_38 (hin : meth.name = "<init>") (hx : p.tables.exec = Jvm.exec) (hb : c.code = cc) (hts : ∀ w ∈ xt_T, w.before args s = true) (hown : s.vm.findClass "StackedRowsModel" = some m.cls) (hK : va_K g.1 vwCl (xg_t g) s) (hP : va_P g.1 vwCl ws H) (hD : va_D A ws) (hS : va_S A s.heap H locs) (q0 : Nat) {fs : List Value} (he : ws[q0]? = some (oc_o a 11 fs)) {v : Value} (hn : narrow (.array .int) v = v) (hfit : fits (.array .int) v = true) (hl : 20 < fs.length) (hdg : decode cc pc = .ok (.putfield 38, 3)) (kk : ∀ (H1 : Heap) (locs1 : List Loc), va_P g.1 vwCl (ws.set q0 (oc_o a 11 (fs.set 20 v))) H1 → va_D A (ws.set q0 (oc_o a 11 (fs.set 20 v))) → va_S A s.heap H1 locs1 → W p l e R s m args below meth c H1 locs1 cells slots Q (F0 m (pc + 3) ls rest)) : W p l e R s m args below meth c H locs cells slots Q (F0 m pc ls (v :: .ref a :: rest)) :=
  va_putF (C := "StackedRowsModel") (T := tk_T11) (N := 32) hx hb hts fi_MO tk_y11 tk_o11 tk_n11 hown hK hP hD hS q0 he rfl 20 (by decide) (hts _ fl_MO_38) (fun _ h9 => h9) rfl hin rfl (by decide +kernel) hn hfit hl hdg kk
theorem pf_MO_41 (hin : meth.name = "<init>") (hx : p.tables.exec = Jvm.exec) (hb : c.code = cc) (hts : ∀ w ∈ xt_T, w.before args s = true) (hown : s.vm.findClass "StackedRowsModel" = some m.cls) (hK : va_K g.1 vwCl (xg_t g) s) (hP : va_P g.1 vwCl ws H) (hD : va_D A ws) (hS : va_S A s.heap H locs) (q0 : Nat) {fs : List Value} (he : ws[q0]? = some (oc_o a 11 fs)) {v : Value} (hn : narrow (.array .int) v = v) (hfit : fits (.array .int) v = true) (hl : 21 < fs.length) (hdg : decode cc pc = .ok (.putfield 41, 3)) (kk : ∀ (H1 : Heap) (locs1 : List Loc), va_P g.1 vwCl (ws.set q0 (oc_o a 11 (fs.set 21 v))) H1 → va_D A (ws.set q0 (oc_o a 11 (fs.set 21 v))) → va_S A s.heap H1 locs1 → W p l e R s m args below meth c H1 locs1 cells slots Q (F0 m (pc + 3) ls rest)) : W p l e R s m args below meth c H locs cells slots Q (F0 m pc ls (v :: .ref a :: rest)) :=
  va_putF (C := "StackedRowsModel") (T := tk_T11) (N := 32) hx hb hts fi_MO tk_y11 tk_o11 tk_n11 hown hK hP hD hS q0 he rfl 21 (by decide) (hts _ fl_MO_41) (fun _ h9 => h9) rfl hin rfl (by decide +kernel) hn hfit hl hdg kk
theorem fl_MO_44 : Cond.fieldLink "StackedRowsModel" 44 "StackedRowsModel" "above" "[I" ∈ xt_T := xt_in (List.mem_of_getElem? (i := 1087) (by decide +kernel)) (by decide +kernel)
theorem pf_MO_44 (hin : meth.name = "<init>") (hx : p.tables.exec = Jvm.exec) (hb : c.code = cc) (hts : ∀ w ∈ xt_T, w.before args s = true) (hown : s.vm.findClass "StackedRowsModel" = some m.cls) (hK : va_K g.1 vwCl (xg_t g) s) (hP : va_P g.1 vwCl ws H) (hD : va_D A ws) (hS : va_S A s.heap H locs) (q0 : Nat) {fs : List Value} (he : ws[q0]? = some (oc_o a 11 fs)) {v : Value} (hn : narrow (.array .int) v = v) (hfit : fits (.array .int) v = true) (hl : 22 < fs.length) (hdg : decode cc pc = .ok (.putfield 44, 3)) (kk : ∀ (H1 : Heap) (locs1 : List Loc), va_P g.1 vwCl (ws.set q0 (oc_o a 11 (fs.set 22 v))) H1 → va_D A (ws.set q0 (oc_o a 11 (fs.set 22 v))) → va_S A s.heap H1 locs1 → W p l e R s m args below meth c H1 locs1 cells slots Q (F0 m (pc + 3) ls rest)) : W p l e R s m args below meth c H locs cells slots Q (F0 m pc ls (v :: .ref a :: rest)) :=
  va_putF (C := "StackedRowsModel") (T := tk_T11) (N := 32) hx hb hts fi_MO tk_y11 tk_o11 tk_n11 hown hK hP hD hS q0 he rfl 22 (by decide) (hts _ fl_MO_44) (fun _ h9 => h9) rfl hin rfl (by decide +kernel) hn hfit hl hdg kk
theorem fl_MO_47 : Cond.fieldLink "StackedRowsModel" 47 "StackedRowsModel" "below" "[I" ∈ xt_T := xt_in (List.mem_of_getElem? (i := 1088) (by decide +kernel)) (by decide +kernel)
theorem pf_MO_47 (hin : meth.name = "<init>") (hx : p.tables.exec = Jvm.exec) (hb : c.code = cc) (hts : ∀ w ∈ xt_T, w.before args s = true) (hown : s.vm.findClass "StackedRowsModel" = some m.cls) (hK : va_K g.1 vwCl (xg_t g) s) (hP : va_P g.1 vwCl ws H) (hD : va_D A ws) (hS : va_S A s.heap H locs) (q0 : Nat) {fs : List Value} (he : ws[q0]? = some (oc_o a 11 fs)) {v : Value} (hn : narrow (.array .int) v = v) (hfit : fits (.array .int) v = true) (hl : 23 < fs.length) (hdg : decode cc pc = .ok (.putfield 47, 3)) (kk : ∀ (H1 : Heap) (locs1 : List Loc), va_P g.1 vwCl (ws.set q0 (oc_o a 11 (fs.set 23 v))) H1 → va_D A (ws.set q0 (oc_o a 11 (fs.set 23 v))) → va_S A s.heap H1 locs1 → W p l e R s m args below meth c H1 locs1 cells slots Q (F0 m (pc + 3) ls rest)) : W p l e R s m args below meth c H locs cells slots Q (F0 m pc ls (v :: .ref a :: rest)) :=
  va_putF (C := "StackedRowsModel") (T := tk_T11) (N := 32) hx hb hts fi_MO tk_y11 tk_o11 tk_n11 hown hK hP hD hS q0 he rfl 23 (by decide) (hts _ fl_MO_47) (fun _ h9 => h9) rfl hin rfl (by decide +kernel) hn hfit hl hdg kk
theorem fl_MO_50 : Cond.fieldLink "StackedRowsModel" 50 "StackedRowsModel" "old" "[I" ∈ xt_T := xt_in (List.mem_of_getElem? (i := 1089) (by decide +kernel)) (by decide +kernel)
theorem pf_MO_50 (hin : meth.name = "<init>") (hx : p.tables.exec = Jvm.exec) (hb : c.code = cc) (hts : ∀ w ∈ xt_T, w.before args s = true) (hown : s.vm.findClass "StackedRowsModel" = some m.cls) (hK : va_K g.1 vwCl (xg_t g) s) (hP : va_P g.1 vwCl ws H) (hD : va_D A ws) (hS : va_S A s.heap H locs) (q0 : Nat) {fs : List Value} (he : ws[q0]? = some (oc_o a 11 fs)) {v : Value} (hn : narrow (.array .int) v = v) (hfit : fits (.array .int) v = true) (hl : 24 < fs.length) (hdg : decode cc pc = .ok (.putfield 50, 3)) (kk : ∀ (H1 : Heap) (locs1 : List Loc), va_P g.1 vwCl (ws.set q0 (oc_o a 11 (fs.set 24 v))) H1 → va_D A (ws.set q0 (oc_o a 11 (fs.set 24 v))) → va_S A s.heap H1 locs1 → W p l e R s m args below meth c H1 locs1 cells slots Q (F0 m (pc + 3) ls rest)) : W p l e R s m args below meth c H locs cells slots Q (F0 m pc ls (v :: .ref a :: rest)) :=
  va_putF (C := "StackedRowsModel") (T := tk_T11) (N := 32) hx hb hts fi_MO tk_y11 tk_o11 tk_n11 hown hK hP hD hS q0 he rfl 24 (by decide) (hts _ fl_MO_50) (fun _ h9 => h9) rfl hin rfl (by decide +kernel) hn hfit hl hdg kk
theorem fl_MO_53 : Cond.fieldLink "StackedRowsModel" 53 "StackedRowsModel" "now" "[I" ∈ xt_T := xt_in (List.mem_of_getElem? (i := 1090) (by decide +kernel)) (by decide +kernel)
theorem pf_MO_53 (hin : meth.name = "<init>") (hx : p.tables.exec = Jvm.exec) (hb : c.code = cc) (hts : ∀ w ∈ xt_T, w.before args s = true) (hown : s.vm.findClass "StackedRowsModel" = some m.cls) (hK : va_K g.1 vwCl (xg_t g) s) (hP : va_P g.1 vwCl ws H) (hD : va_D A ws) (hS : va_S A s.heap H locs) (q0 : Nat) {fs : List Value} (he : ws[q0]? = some (oc_o a 11 fs)) {v : Value} (hn : narrow (.array .int) v = v) (hfit : fits (.array .int) v = true) (hl : 25 < fs.length) (hdg : decode cc pc = .ok (.putfield 53, 3)) (kk : ∀ (H1 : Heap) (locs1 : List Loc), va_P g.1 vwCl (ws.set q0 (oc_o a 11 (fs.set 25 v))) H1 → va_D A (ws.set q0 (oc_o a 11 (fs.set 25 v))) → va_S A s.heap H1 locs1 → W p l e R s m args below meth c H1 locs1 cells slots Q (F0 m (pc + 3) ls rest)) : W p l e R s m args below meth c H locs cells slots Q (F0 m pc ls (v :: .ref a :: rest)) :=
  va_putF (C := "StackedRowsModel") (T := tk_T11) (N := 32) hx hb hts fi_MO tk_y11 tk_o11 tk_n11 hown hK hP hD hS q0 he rfl 25 (by decide) (hts _ fl_MO_53) (fun _ h9 => h9) rfl hin rfl (by decide +kernel) hn hfit hl hdg kk
theorem pf_MO_56 (hin : meth.name = "<init>") (hx : p.tables.exec = Jvm.exec) (hb : c.code = cc) (hts : ∀ w ∈ xt_T, w.before args s = true) (hown : s.vm.findClass "StackedRowsModel" = some m.cls) (hK : va_K g.1 vwCl (xg_t g) s) (hP : va_P g.1 vwCl ws H) (hD : va_D A ws) (hS : va_S A s.heap H locs) (q0 : Nat) {fs : List Value} (he : ws[q0]? = some (oc_o a 11 fs)) {v : Value} (hn : narrow (.array .int) v = v) (hfit : fits (.array .int) v = true) (hl : 26 < fs.length) (hdg : decode cc pc = .ok (.putfield 56, 3)) (kk : ∀ (H1 : Heap) (locs1 : List Loc), va_P g.1 vwCl (ws.set q0 (oc_o a 11 (fs.set 26 v))) H1 → va_D A (ws.set q0 (oc_o a 11 (fs.set 26 v))) → va_S A s.heap H1 locs1 → W p l e R s m args below meth c H1 locs1 cells slots Q (F0 m (pc + 3) ls rest)) : W p l e R s m args below meth c H locs cells slots Q (F0 m pc ls (v :: .ref a :: rest)) :=
  va_putF (C := "StackedRowsModel") (T := tk_T11) (N := 32) hx hb hts fi_MO tk_y11 tk_o11 tk_n11 hown hK hP hD hS q0 he rfl 26 (by decide) (hts _ fl_MO_56) (fun _ h9 => h9) rfl hin rfl (by decide +kernel) hn hfit hl hdg kk
theorem fl_MO_59 : Cond.fieldLink "StackedRowsModel" 59 "StackedRowsModel" "isWrong" "[Z" ∈ xt_T := xt_in (List.mem_of_getElem? (i := 1092) (by decide +kernel)) (by decide +kernel)
theorem pf_MO_59 (hin : meth.name = "<init>") (hx : p.tables.exec = Jvm.exec) (hb : c.code = cc) (hts : ∀ w ∈ xt_T, w.before args s = true) (hown : s.vm.findClass "StackedRowsModel" = some m.cls) (hK : va_K g.1 vwCl (xg_t g) s) (hP : va_P g.1 vwCl ws H) (hD : va_D A ws) (hS : va_S A s.heap H locs) (q0 : Nat) {fs : List Value} (he : ws[q0]? = some (oc_o a 11 fs)) {v : Value} (hn : narrow (.array .boolean) v = v) (hfit : fits (.array .boolean) v = true) (hl : 27 < fs.length) (hdg : decode cc pc = .ok (.putfield 59, 3)) (kk : ∀ (H1 : Heap) (locs1 : List Loc), va_P g.1 vwCl (ws.set q0 (oc_o a 11 (fs.set 27 v))) H1 → va_D A (ws.set q0 (oc_o a 11 (fs.set 27 v))) → va_S A s.heap H1 locs1 → W p l e R s m args below meth c H1 locs1 cells slots Q (F0 m (pc + 3) ls rest)) : W p l e R s m args below meth c H locs cells slots Q (F0 m pc ls (v :: .ref a :: rest)) :=
  va_putF (C := "StackedRowsModel") (T := tk_T11) (N := 32) hx hb hts fi_MO tk_y11 tk_o11 tk_n11 hown hK hP hD hS q0 he rfl 27 (by decide) (hts _ fl_MO_59) (fun _ h9 => h9) rfl hin rfl (by decide +kernel) hn hfit hl hdg kk
theorem fl_MO_62 : Cond.fieldLink "StackedRowsModel" 62 "StackedRowsModel" "out" "[I" ∈ xt_T := xt_in (List.mem_of_getElem? (i := 1093) (by decide +kernel)) (by decide +kernel)
theorem pf_MO_62 (hin : meth.name = "<init>") (hx : p.tables.exec = Jvm.exec) (hb : c.code = cc) (hts : ∀ w ∈ xt_T, w.before args s = true) (hown : s.vm.findClass "StackedRowsModel" = some m.cls) (hK : va_K g.1 vwCl (xg_t g) s) (hP : va_P g.1 vwCl ws H) (hD : va_D A ws) (hS : va_S A s.heap H locs) (q0 : Nat) {fs : List Value} (he : ws[q0]? = some (oc_o a 11 fs)) {v : Value} (hn : narrow (.array .int) v = v) (hfit : fits (.array .int) v = true) (hl : 28 < fs.length) (hdg : decode cc pc = .ok (.putfield 62, 3)) (kk : ∀ (H1 : Heap) (locs1 : List Loc), va_P g.1 vwCl (ws.set q0 (oc_o a 11 (fs.set 28 v))) H1 → va_D A (ws.set q0 (oc_o a 11 (fs.set 28 v))) → va_S A s.heap H1 locs1 → W p l e R s m args below meth c H1 locs1 cells slots Q (F0 m (pc + 3) ls rest)) : W p l e R s m args below meth c H locs cells slots Q (F0 m pc ls (v :: .ref a :: rest)) :=
  va_putF (C := "StackedRowsModel") (T := tk_T11) (N := 32) hx hb hts fi_MO tk_y11 tk_o11 tk_n11 hown hK hP hD hS q0 he rfl 28 (by decide) (hts _ fl_MO_62) (fun _ h9 => h9) rfl hin rfl (by decide +kernel) hn hfit hl hdg kk
theorem fl_MO_65 : Cond.fieldLink "StackedRowsModel" 65 "StackedRowsModel" "digits" "[I" ∈ xt_T := xt_in (List.mem_of_getElem? (i := 1095) (by decide +kernel)) (by decide +kernel)
theorem pf_MO_65 (hin : meth.name = "<init>") (hx : p.tables.exec = Jvm.exec) (hb : c.code = cc) (hts : ∀ w ∈ xt_T, w.before args s = true) (hown : s.vm.findClass "StackedRowsModel" = some m.cls) (hK : va_K g.1 vwCl (xg_t g) s) (hP : va_P g.1 vwCl ws H) (hD : va_D A ws) (hS : va_S A s.heap H locs) (q0 : Nat) {fs : List Value} (he : ws[q0]? = some (oc_o a 11 fs)) {v : Value} (hn : narrow (.array .int) v = v) (hfit : fits (.array .int) v = true) (hl : 30 < fs.length) (hdg : decode cc pc = .ok (.putfield 65, 3)) (kk : ∀ (H1 : Heap) (locs1 : List Loc), va_P g.1 vwCl (ws.set q0 (oc_o a 11 (fs.set 30 v))) H1 → va_D A (ws.set q0 (oc_o a 11 (fs.set 30 v))) → va_S A s.heap H1 locs1 → W p l e R s m args below meth c H1 locs1 cells slots Q (F0 m (pc + 3) ls rest)) : W p l e R s m args below meth c H locs cells slots Q (F0 m pc ls (v :: .ref a :: rest)) :=
  va_putF (C := "StackedRowsModel") (T := tk_T11) (N := 32) hx hb hts fi_MO tk_y11 tk_o11 tk_n11 hown hK hP hD hS q0 he rfl 30 (by decide) (hts _ fl_MO_65) (fun _ h9 => h9) rfl hin rfl (by decide +kernel) hn hfit hl hdg kk
theorem pf_MO_68 (hx : p.tables.exec = Jvm.exec) (hb : c.code = cc) (hts : ∀ w ∈ xt_T, w.before args s = true) (hown : s.vm.findClass "StackedRowsModel" = some m.cls) (hK : va_K g.1 vwCl (xg_t g) s) (hP : va_P g.1 vwCl ws H) (hD : va_D A ws) (hS : va_S A s.heap H locs) (q0 : Nat) {fs : List Value} (he : ws[q0]? = some (oc_o a 11 fs)) {v : Value} (hn : narrow (.int) v = v) (hfit : fits (.int) v = true) (hl : 0 < fs.length) (hdg : decode cc pc = .ok (.putfield 68, 3)) (kk : ∀ (H1 : Heap) (locs1 : List Loc), va_P g.1 vwCl (ws.set q0 (oc_o a 11 (fs.set 0 v))) H1 → va_D A (ws.set q0 (oc_o a 11 (fs.set 0 v))) → va_S A s.heap H1 locs1 → W p l e R s m args below meth c H1 locs1 cells slots Q (F0 m (pc + 3) ls rest)) : W p l e R s m args below meth c H locs cells slots Q (F0 m pc ls (v :: .ref a :: rest)) :=
  va_put (C := "StackedRowsModel") (T := tk_T11) (N := 32) hx hb hts fi_MO tk_y11 tk_o11 tk_n11 hown hK hP hD hS q0 he rfl 0 (by decide) (hts _ fl_MO_68) (fun _ h9 => h9) rfl (by decide +kernel) hn hfit hl hdg kk
theorem pf_MO_7 (hin : meth.name = "<init>") (hx : p.tables.exec = Jvm.exec) (hb : c.code = cc) (hts : ∀ w ∈ xt_T, w.before args s = true) (hown : s.vm.findClass "StackedRowsModel" = some m.cls) (hK : va_K g.1 vwCl (xg_t g) s) (hP : va_P g.1 vwCl ws H) (hD : va_D A ws) (hS : va_S A s.heap H locs) (q0 : Nat) {fs : List Value} (he : ws[q0]? = some (oc_o a 11 fs)) {v : Value} (hn : narrow (.array .int) v = v) (hfit : fits (.array .int) v = true) (hl : 1 < fs.length) (hdg : decode cc pc = .ok (.putfield 7, 3)) (kk : ∀ (H1 : Heap) (locs1 : List Loc), va_P g.1 vwCl (ws.set q0 (oc_o a 11 (fs.set 1 v))) H1 → va_D A (ws.set q0 (oc_o a 11 (fs.set 1 v))) → va_S A s.heap H1 locs1 → W p l e R s m args below meth c H1 locs1 cells slots Q (F0 m (pc + 3) ls rest)) : W p l e R s m args below meth c H locs cells slots Q (F0 m pc ls (v :: .ref a :: rest)) :=
  va_putF (C := "StackedRowsModel") (T := tk_T11) (N := 32) hx hb hts fi_MO tk_y11 tk_o11 tk_n11 hown hK hP hD hS q0 he rfl 1 (by decide) (hts _ fl_MO_7) (fun _ h9 => h9) rfl hin rfl (by decide +kernel) hn hfit hl hdg kk
theorem pf_MO_72 (hx : p.tables.exec = Jvm.exec) (hb : c.code = cc) (hts : ∀ w ∈ xt_T, w.before args s = true) (hown : s.vm.findClass "StackedRowsModel" = some m.cls) (hK : va_K g.1 vwCl (xg_t g) s) (hP : va_P g.1 vwCl ws H) (hD : va_D A ws) (hS : va_S A s.heap H locs) (q0 : Nat) {fs : List Value} (he : ws[q0]? = some (oc_o a 11 fs)) {v : Value} (hn : narrow (.int) v = v) (hfit : fits (.int) v = true) (hl : 2 < fs.length) (hdg : decode cc pc = .ok (.putfield 72, 3)) (kk : ∀ (H1 : Heap) (locs1 : List Loc), va_P g.1 vwCl (ws.set q0 (oc_o a 11 (fs.set 2 v))) H1 → va_D A (ws.set q0 (oc_o a 11 (fs.set 2 v))) → va_S A s.heap H1 locs1 → W p l e R s m args below meth c H1 locs1 cells slots Q (F0 m (pc + 3) ls rest)) : W p l e R s m args below meth c H locs cells slots Q (F0 m pc ls (v :: .ref a :: rest)) :=
  va_put (C := "StackedRowsModel") (T := tk_T11) (N := 32) hx hb hts fi_MO tk_y11 tk_o11 tk_n11 hown hK hP hD hS q0 he rfl 2 (by decide) (hts _ fl_MO_72) (fun _ h9 => h9) rfl (by decide +kernel) hn hfit hl hdg kk
theorem pf_MO_89 (hx : p.tables.exec = Jvm.exec) (hb : c.code = cc) (hts : ∀ w ∈ xt_T, w.before args s = true) (hown : s.vm.findClass "StackedRowsModel" = some m.cls) (hK : va_K g.1 vwCl (xg_t g) s) (hP : va_P g.1 vwCl ws H) (hD : va_D A ws) (hS : va_S A s.heap H locs) (q0 : Nat) {fs : List Value} (he : ws[q0]? = some (oc_o a 11 fs)) {v : Value} (hn : narrow (.int) v = v) (hfit : fits (.int) v = true) (hl : 4 < fs.length) (hdg : decode cc pc = .ok (.putfield 89, 3)) (kk : ∀ (H1 : Heap) (locs1 : List Loc), va_P g.1 vwCl (ws.set q0 (oc_o a 11 (fs.set 4 v))) H1 → va_D A (ws.set q0 (oc_o a 11 (fs.set 4 v))) → va_S A s.heap H1 locs1 → W p l e R s m args below meth c H1 locs1 cells slots Q (F0 m (pc + 3) ls rest)) : W p l e R s m args below meth c H locs cells slots Q (F0 m pc ls (v :: .ref a :: rest)) :=
  va_put (C := "StackedRowsModel") (T := tk_T11) (N := 32) hx hb hts fi_MO tk_y11 tk_o11 tk_n11 hown hK hP hD hS q0 he rfl 4 (by decide) (hts _ fl_MO_89) (fun _ h9 => h9) rfl (by decide +kernel) hn hfit hl hdg kk
end XX
end
section
theorem tw_SR_112 : ∀ a ∈ Bundle.ownAtoms0 "StackedRows" 114 "java/lang/IllegalStateException" ["java/lang/RuntimeException", "java/lang/Exception"], a ∈ xt_T ∨ a = xt_r1 ∨ a = xt_r2 := by decide +kernel
theorem tw_SR_59 : ∀ a ∈ Bundle.ownAtoms0 "StackedRows" 61 "java/lang/UnsupportedOperationException" ["java/lang/RuntimeException", "java/lang/Exception"], a ∈ xt_T ∨ a = xt_r1 ∨ a = xt_r2 := by decide +kernel
theorem tw_SR_69 : ∀ a ∈ Bundle.ownAtoms0 "StackedRows" 71 "java/lang/IllegalArgumentException" ["java/lang/RuntimeException", "java/lang/Exception"], a ∈ xt_T ∨ a = xt_r1 ∨ a = xt_r2 := by decide +kernel
theorem tw_SR_75 : ∀ a ∈ Bundle.ownAtoms0 "StackedRows" 77 "java/lang/IndexOutOfBoundsException" ["java/lang/RuntimeException", "java/lang/Exception"], a ∈ xt_T ∨ a = xt_r1 ∨ a = xt_r2 := by decide +kernel
end
