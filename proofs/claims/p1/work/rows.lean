section
-- ===== PART A: goes FIRST, ahead of the names: the tables' words, and 'selects' of the private methods out of them =====
/-- a private method of a class that the tables say can be made, by its rows of tables_1 -/
def lw_okq (q : MethodName × Nat) : Prop := (q.1.cls ≠ "java/lang/invoke/MethodHandle" ∧ q.1.cls ≠ "java/lang/invoke/VarHandle") ∧ Cond.instantiable q.1.cls q.2 ∈ tables_1 ∧ Cond.privateMethod q.1 ∈ tables_1 ∧ Cond.instanceMethod q.1 ∈ tables_1
theorem lw_p0 : lw_okq (⟨"StackedRows$Writer", "measure", "(I)V"⟩, 8) := ⟨⟨by decide +kernel, by decide +kernel⟩, List.mem_of_getElem? (i := 53) (by decide +kernel), List.mem_of_getElem? (i := 295) (by decide +kernel), List.mem_of_getElem? (i := 296) (by decide +kernel)⟩
theorem lw_p1 : lw_okq (⟨"StackedRows$Writer", "writePart", "(I)I"⟩, 8) := ⟨⟨by decide +kernel, by decide +kernel⟩, List.mem_of_getElem? (i := 53) (by decide +kernel), List.mem_of_getElem? (i := 319) (by decide +kernel), List.mem_of_getElem? (i := 320) (by decide +kernel)⟩
theorem lw_p2 : lw_okq (⟨"StackedRows$Writer", "writeDigits", "(II)V"⟩, 8) := ⟨⟨by decide +kernel, by decide +kernel⟩, List.mem_of_getElem? (i := 53) (by decide +kernel), List.mem_of_getElem? (i := 323) (by decide +kernel), List.mem_of_getElem? (i := 324) (by decide +kernel)⟩
theorem lw_p3 : lw_okq (⟨"StackedRows$Writer", "writeNumber", "(II)V"⟩, 8) := ⟨⟨by decide +kernel, by decide +kernel⟩, List.mem_of_getElem? (i := 53) (by decide +kernel), List.mem_of_getElem? (i := 334) (by decide +kernel), List.mem_of_getElem? (i := 335) (by decide +kernel)⟩
theorem lw_p4 : lw_okq (⟨"StackedRows$Writer", "changeToText", "()V"⟩, 8) := ⟨⟨by decide +kernel, by decide +kernel⟩, List.mem_of_getElem? (i := 53) (by decide +kernel), List.mem_of_getElem? (i := 358) (by decide +kernel), List.mem_of_getElem? (i := 359) (by decide +kernel)⟩
theorem lw_p5 : lw_okq (⟨"StackedRows$TextWriter", "lookAt", "(IZ)I"⟩, 3) := ⟨⟨by decide +kernel, by decide +kernel⟩, List.mem_of_getElem? (i := 72) (by decide +kernel), List.mem_of_getElem? (i := 455) (by decide +kernel), List.mem_of_getElem? (i := 456) (by decide +kernel)⟩
theorem lw_p6 : lw_okq (⟨"StackedRows$TextWriter", "add", "(I)V"⟩, 3) := ⟨⟨by decide +kernel, by decide +kernel⟩, List.mem_of_getElem? (i := 72) (by decide +kernel), List.mem_of_getElem? (i := 463) (by decide +kernel), List.mem_of_getElem? (i := 464) (by decide +kernel)⟩
theorem lw_p7 : lw_okq (⟨"StackedRows$TextWriter", "pad", "()V"⟩, 3) := ⟨⟨by decide +kernel, by decide +kernel⟩, List.mem_of_getElem? (i := 72) (by decide +kernel), List.mem_of_getElem? (i := 487) (by decide +kernel), List.mem_of_getElem? (i := 488) (by decide +kernel)⟩
theorem lw_p8 : lw_okq (⟨"StackedRows$Writer", "endOfBytes", "(I)I"⟩, 8) := ⟨⟨by decide +kernel, by decide +kernel⟩, List.mem_of_getElem? (i := 53) (by decide +kernel), List.mem_of_getElem? (i := 491) (by decide +kernel), List.mem_of_getElem? (i := 492) (by decide +kernel)⟩
theorem lw_p9 : lw_okq (⟨"StackedRows$Writer", "writeBytes", "(II)V"⟩, 8) := ⟨⟨by decide +kernel, by decide +kernel⟩, List.mem_of_getElem? (i := 53) (by decide +kernel), List.mem_of_getElem? (i := 495) (by decide +kernel), List.mem_of_getElem? (i := 496) (by decide +kernel)⟩
theorem lw_p10 : lw_okq (⟨"StackedRows$Writer", "writeSix", "(I)V"⟩, 8) := ⟨⟨by decide +kernel, by decide +kernel⟩, List.mem_of_getElem? (i := 53) (by decide +kernel), List.mem_of_getElem? (i := 499) (by decide +kernel), List.mem_of_getElem? (i := 500) (by decide +kernel)⟩
theorem lw_p11 : lw_okq (⟨"java/lang/Throwable", "fillInStackTrace", "(I)Ljava/lang/Throwable;"⟩, 6) := ⟨⟨by decide +kernel, by decide +kernel⟩, List.mem_of_getElem? (i := 561) (by decide +kernel), List.mem_of_getElem? (i := 559) (by decide +kernel), List.mem_of_getElem? (i := 560) (by decide +kernel)⟩
theorem lw_p12 : lw_okq (⟨"StackedRows", "fillRow", "(I)V"⟩, 7) := ⟨⟨by decide +kernel, by decide +kernel⟩, List.mem_of_getElem? (i := 31) (by decide +kernel), List.mem_of_getElem? (i := 677) (by decide +kernel), List.mem_of_getElem? (i := 678) (by decide +kernel)⟩
theorem lw_p13 : lw_okq (⟨"StackedRows$Checks", "multiplyFactors", "(I)V"⟩, 1) := ⟨⟨by decide +kernel, by decide +kernel⟩, List.mem_of_getElem? (i := 131) (by decide +kernel), List.mem_of_getElem? (i := 685) (by decide +kernel), List.mem_of_getElem? (i := 686) (by decide +kernel)⟩
theorem lw_p14 : lw_okq (⟨"StackedRows$Checks", "divide", "([III)V"⟩, 1) := ⟨⟨by decide +kernel, by decide +kernel⟩, List.mem_of_getElem? (i := 131) (by decide +kernel), List.mem_of_getElem? (i := 692) (by decide +kernel), List.mem_of_getElem? (i := 693) (by decide +kernel)⟩
theorem lw_p15 : lw_okq (⟨"StackedRows$Symbol", "indicated", "(II)I"⟩, 3) := ⟨⟨by decide +kernel, by decide +kernel⟩, List.mem_of_getElem? (i := 141) (by decide +kernel), List.mem_of_getElem? (i := 708) (by decide +kernel), List.mem_of_getElem? (i := 709) (by decide +kernel)⟩
def lw_privs_1 : List (MethodName × Nat) := [(⟨"StackedRows$Writer", "measure", "(I)V"⟩, 8), (⟨"StackedRows$Writer", "writePart", "(I)I"⟩, 8), (⟨"StackedRows$Writer", "writeDigits", "(II)V"⟩, 8), (⟨"StackedRows$Writer", "writeNumber", "(II)V"⟩, 8), (⟨"StackedRows$Writer", "changeToText", "()V"⟩, 8), (⟨"StackedRows$TextWriter", "lookAt", "(IZ)I"⟩, 3), (⟨"StackedRows$TextWriter", "add", "(I)V"⟩, 3), (⟨"StackedRows$TextWriter", "pad", "()V"⟩, 3), (⟨"StackedRows$Writer", "endOfBytes", "(I)I"⟩, 8), (⟨"StackedRows$Writer", "writeBytes", "(II)V"⟩, 8), (⟨"StackedRows$Writer", "writeSix", "(I)V"⟩, 8), (⟨"java/lang/Throwable", "fillInStackTrace", "(I)Ljava/lang/Throwable;"⟩, 6), (⟨"StackedRows", "fillRow", "(I)V"⟩, 7), (⟨"StackedRows$Checks", "multiplyFactors", "(I)V"⟩, 1), (⟨"StackedRows$Checks", "divide", "([III)V"⟩, 1), (⟨"StackedRows$Symbol", "indicated", "(II)I"⟩, 3)]
theorem lw_r1 : ∀ q ∈ lw_privs_1, lw_okq q := List.forall_mem_cons.mpr ⟨lw_p0, List.forall_mem_cons.mpr ⟨lw_p1, List.forall_mem_cons.mpr ⟨lw_p2, List.forall_mem_cons.mpr ⟨lw_p3, List.forall_mem_cons.mpr ⟨lw_p4, List.forall_mem_cons.mpr ⟨lw_p5, List.forall_mem_cons.mpr ⟨lw_p6, List.forall_mem_cons.mpr ⟨lw_p7, List.forall_mem_cons.mpr ⟨lw_p8, List.forall_mem_cons.mpr ⟨lw_p9, List.forall_mem_cons.mpr ⟨lw_p10, List.forall_mem_cons.mpr ⟨lw_p11, List.forall_mem_cons.mpr ⟨lw_p12, List.forall_mem_cons.mpr ⟨lw_p13, List.forall_mem_cons.mpr ⟨lw_p14, List.forall_mem_cons.mpr ⟨lw_p15, fun _ h => absurd h List.not_mem_nil⟩⟩⟩⟩⟩⟩⟩⟩⟩⟩⟩⟩⟩⟩⟩⟩
theorem lw_p16 : lw_okq (⟨"StackedRows$Solver", "hearIndicators", "(LStackedRows$Symbol;)V"⟩, 9) := ⟨⟨by decide +kernel, by decide +kernel⟩, List.mem_of_getElem? (i := 157) (by decide +kernel), List.mem_of_getElem? (i := 781) (by decide +kernel), List.mem_of_getElem? (i := 782) (by decide +kernel)⟩
theorem lw_p17 : lw_okq (⟨"StackedRows$Solver", "hear", "(II)V"⟩, 9) := ⟨⟨by decide +kernel, by decide +kernel⟩, List.mem_of_getElem? (i := 157) (by decide +kernel), List.mem_of_getElem? (i := 792) (by decide +kernel), List.mem_of_getElem? (i := 793) (by decide +kernel)⟩
theorem lw_p18 : lw_okq (⟨"StackedRows$Solver", "mostTold", "(I)I"⟩, 9) := ⟨⟨by decide +kernel, by decide +kernel⟩, List.mem_of_getElem? (i := 157) (by decide +kernel), List.mem_of_getElem? (i := 801) (by decide +kernel), List.mem_of_getElem? (i := 802) (by decide +kernel)⟩
theorem lw_p19 : lw_okq (⟨"StackedRows$Solver", "mendAndRead", "(II)I"⟩, 9) := ⟨⟨by decide +kernel, by decide +kernel⟩, List.mem_of_getElem? (i := 157) (by decide +kernel), List.mem_of_getElem? (i := 811) (by decide +kernel), List.mem_of_getElem? (i := 812) (by decide +kernel)⟩
theorem lw_p20 : lw_okq (⟨"StackedRows$Mender", "copyWithoutLost", "([I)I"⟩, 9) := ⟨⟨by decide +kernel, by decide +kernel⟩, List.mem_of_getElem? (i := 163) (by decide +kernel), List.mem_of_getElem? (i := 819) (by decide +kernel), List.mem_of_getElem? (i := 820) (by decide +kernel)⟩
theorem lw_p21 : lw_okq (⟨"StackedRows$Mender", "sumsAreZero", "()Z"⟩, 9) := ⟨⟨by decide +kernel, by decide +kernel⟩, List.mem_of_getElem? (i := 163) (by decide +kernel), List.mem_of_getElem? (i := 823) (by decide +kernel), List.mem_of_getElem? (i := 824) (by decide +kernel)⟩
theorem lw_p22 : lw_okq (⟨"StackedRows$Mender", "sumAt", "(I)I"⟩, 9) := ⟨⟨by decide +kernel, by decide +kernel⟩, List.mem_of_getElem? (i := 163) (by decide +kernel), List.mem_of_getElem? (i := 827) (by decide +kernel), List.mem_of_getElem? (i := 828) (by decide +kernel)⟩
theorem lw_p23 : lw_okq (⟨"StackedRows$Mender", "locateLost", "([I)V"⟩, 9) := ⟨⟨by decide +kernel, by decide +kernel⟩, List.mem_of_getElem? (i := 163) (by decide +kernel), List.mem_of_getElem? (i := 831) (by decide +kernel), List.mem_of_getElem? (i := 832) (by decide +kernel)⟩
theorem lw_p24 : lw_okq (⟨"StackedRows$Mender", "locateWrong", "(I)V"⟩, 9) := ⟨⟨by decide +kernel, by decide +kernel⟩, List.mem_of_getElem? (i := 163) (by decide +kernel), List.mem_of_getElem? (i := 837) (by decide +kernel), List.mem_of_getElem? (i := 838) (by decide +kernel)⟩
theorem lw_p25 : lw_okq (⟨"StackedRows$Mender", "copy", "([I[I)V"⟩, 9) := ⟨⟨by decide +kernel, by decide +kernel⟩, List.mem_of_getElem? (i := 163) (by decide +kernel), List.mem_of_getElem? (i := 841) (by decide +kernel), List.mem_of_getElem? (i := 842) (by decide +kernel)⟩
theorem lw_p26 : lw_okq (⟨"StackedRows$Mender", "missAt", "(I)I"⟩, 9) := ⟨⟨by decide +kernel, by decide +kernel⟩, List.mem_of_getElem? (i := 163) (by decide +kernel), List.mem_of_getElem? (i := 848) (by decide +kernel), List.mem_of_getElem? (i := 849) (by decide +kernel)⟩
theorem lw_p27 : lw_okq (⟨"StackedRows$Mender", "subtractEarlier", "(III)V"⟩, 9) := ⟨⟨by decide +kernel, by decide +kernel⟩, List.mem_of_getElem? (i := 163) (by decide +kernel), List.mem_of_getElem? (i := 852) (by decide +kernel), List.mem_of_getElem? (i := 853) (by decide +kernel)⟩
theorem lw_p28 : lw_okq (⟨"StackedRows$Mender", "correct", "()Z"⟩, 9) := ⟨⟨by decide +kernel, by decide +kernel⟩, List.mem_of_getElem? (i := 163) (by decide +kernel), List.mem_of_getElem? (i := 862) (by decide +kernel), List.mem_of_getElem? (i := 863) (by decide +kernel)⟩
theorem lw_p29 : lw_okq (⟨"StackedRows$Mender", "prepareEvaluator", "()V"⟩, 9) := ⟨⟨by decide +kernel, by decide +kernel⟩, List.mem_of_getElem? (i := 163) (by decide +kernel), List.mem_of_getElem? (i := 866) (by decide +kernel), List.mem_of_getElem? (i := 867) (by decide +kernel)⟩
theorem lw_p30 : lw_okq (⟨"StackedRows$Mender", "slopeAt", "(I)I"⟩, 9) := ⟨⟨by decide +kernel, by decide +kernel⟩, List.mem_of_getElem? (i := 163) (by decide +kernel), List.mem_of_getElem? (i := 873) (by decide +kernel), List.mem_of_getElem? (i := 874) (by decide +kernel)⟩
theorem lw_p31 : lw_okq (⟨"StackedRows$Mender", "countWrong", "([I)I"⟩, 9) := ⟨⟨by decide +kernel, by decide +kernel⟩, List.mem_of_getElem? (i := 163) (by decide +kernel), List.mem_of_getElem? (i := 877) (by decide +kernel), List.mem_of_getElem? (i := 878) (by decide +kernel)⟩
def lw_privs_2 : List (MethodName × Nat) := [(⟨"StackedRows$Solver", "hearIndicators", "(LStackedRows$Symbol;)V"⟩, 9), (⟨"StackedRows$Solver", "hear", "(II)V"⟩, 9), (⟨"StackedRows$Solver", "mostTold", "(I)I"⟩, 9), (⟨"StackedRows$Solver", "mendAndRead", "(II)I"⟩, 9), (⟨"StackedRows$Mender", "copyWithoutLost", "([I)I"⟩, 9), (⟨"StackedRows$Mender", "sumsAreZero", "()Z"⟩, 9), (⟨"StackedRows$Mender", "sumAt", "(I)I"⟩, 9), (⟨"StackedRows$Mender", "locateLost", "([I)V"⟩, 9), (⟨"StackedRows$Mender", "locateWrong", "(I)V"⟩, 9), (⟨"StackedRows$Mender", "copy", "([I[I)V"⟩, 9), (⟨"StackedRows$Mender", "missAt", "(I)I"⟩, 9), (⟨"StackedRows$Mender", "subtractEarlier", "(III)V"⟩, 9), (⟨"StackedRows$Mender", "correct", "()Z"⟩, 9), (⟨"StackedRows$Mender", "prepareEvaluator", "()V"⟩, 9), (⟨"StackedRows$Mender", "slopeAt", "(I)I"⟩, 9), (⟨"StackedRows$Mender", "countWrong", "([I)I"⟩, 9)]
theorem lw_r2 : ∀ q ∈ lw_privs_2, lw_okq q := List.forall_mem_cons.mpr ⟨lw_p16, List.forall_mem_cons.mpr ⟨lw_p17, List.forall_mem_cons.mpr ⟨lw_p18, List.forall_mem_cons.mpr ⟨lw_p19, List.forall_mem_cons.mpr ⟨lw_p20, List.forall_mem_cons.mpr ⟨lw_p21, List.forall_mem_cons.mpr ⟨lw_p22, List.forall_mem_cons.mpr ⟨lw_p23, List.forall_mem_cons.mpr ⟨lw_p24, List.forall_mem_cons.mpr ⟨lw_p25, List.forall_mem_cons.mpr ⟨lw_p26, List.forall_mem_cons.mpr ⟨lw_p27, List.forall_mem_cons.mpr ⟨lw_p28, List.forall_mem_cons.mpr ⟨lw_p29, List.forall_mem_cons.mpr ⟨lw_p30, List.forall_mem_cons.mpr ⟨lw_p31, fun _ h => absurd h List.not_mem_nil⟩⟩⟩⟩⟩⟩⟩⟩⟩⟩⟩⟩⟩⟩⟩⟩
theorem lw_p32 : lw_okq (⟨"StackedRows$Reader", "changeTo", "(I)V"⟩, 8) := ⟨⟨by decide +kernel, by decide +kernel⟩, List.mem_of_getElem? (i := 199) (by decide +kernel), List.mem_of_getElem? (i := 886) (by decide +kernel), List.mem_of_getElem? (i := 887) (by decide +kernel)⟩
theorem lw_p33 : lw_okq (⟨"StackedRows$Reader", "readPart", "(I)I"⟩, 8) := ⟨⟨by decide +kernel, by decide +kernel⟩, List.mem_of_getElem? (i := 199) (by decide +kernel), List.mem_of_getElem? (i := 890) (by decide +kernel), List.mem_of_getElem? (i := 891) (by decide +kernel)⟩
theorem lw_p34 : lw_okq (⟨"StackedRows$Reader", "readChange", "(II)I"⟩, 8) := ⟨⟨by decide +kernel, by decide +kernel⟩, List.mem_of_getElem? (i := 199) (by decide +kernel), List.mem_of_getElem? (i := 894) (by decide +kernel), List.mem_of_getElem? (i := 895) (by decide +kernel)⟩
theorem lw_p35 : lw_okq (⟨"StackedRows$Reader", "readByte", "(I)I"⟩, 8) := ⟨⟨by decide +kernel, by decide +kernel⟩, List.mem_of_getElem? (i := 199) (by decide +kernel), List.mem_of_getElem? (i := 898) (by decide +kernel), List.mem_of_getElem? (i := 899) (by decide +kernel)⟩
theorem lw_p36 : lw_okq (⟨"StackedRows$Reader", "readDigits", "(I)I"⟩, 8) := ⟨⟨by decide +kernel, by decide +kernel⟩, List.mem_of_getElem? (i := 199) (by decide +kernel), List.mem_of_getElem? (i := 903) (by decide +kernel), List.mem_of_getElem? (i := 904) (by decide +kernel)⟩
theorem lw_p37 : lw_okq (⟨"StackedRows$Reader", "endOfRun", "(II)I"⟩, 8) := ⟨⟨by decide +kernel, by decide +kernel⟩, List.mem_of_getElem? (i := 199) (by decide +kernel), List.mem_of_getElem? (i := 907) (by decide +kernel), List.mem_of_getElem? (i := 908) (by decide +kernel)⟩
theorem lw_p38 : lw_okq (⟨"StackedRows$Reader", "readBytes", "(I)I"⟩, 8) := ⟨⟨by decide +kernel, by decide +kernel⟩, List.mem_of_getElem? (i := 199) (by decide +kernel), List.mem_of_getElem? (i := 915) (by decide +kernel), List.mem_of_getElem? (i := 916) (by decide +kernel)⟩
theorem lw_p39 : lw_okq (⟨"StackedRows$Reader", "readNumber", "(I)V"⟩, 8) := ⟨⟨by decide +kernel, by decide +kernel⟩, List.mem_of_getElem? (i := 199) (by decide +kernel), List.mem_of_getElem? (i := 921) (by decide +kernel), List.mem_of_getElem? (i := 922) (by decide +kernel)⟩
theorem lw_p40 : lw_okq (⟨"StackedRowsModel", "writeAll", "()V"⟩, 32) := ⟨⟨by decide +kernel, by decide +kernel⟩, List.mem_of_getElem? (i := 990) (by decide +kernel), List.mem_of_getElem? (i := 1102) (by decide +kernel), List.mem_of_getElem? (i := 1103) (by decide +kernel)⟩
theorem lw_p41 : lw_okq (⟨"StackedRowsModel", "digitsFrom", "(I)I"⟩, 32) := ⟨⟨by decide +kernel, by decide +kernel⟩, List.mem_of_getElem? (i := 990) (by decide +kernel), List.mem_of_getElem? (i := 1106) (by decide +kernel), List.mem_of_getElem? (i := 1107) (by decide +kernel)⟩
theorem lw_p42 : lw_okq (⟨"StackedRowsModel", "textFrom", "(I)I"⟩, 32) := ⟨⟨by decide +kernel, by decide +kernel⟩, List.mem_of_getElem? (i := 990) (by decide +kernel), List.mem_of_getElem? (i := 1113) (by decide +kernel), List.mem_of_getElem? (i := 1114) (by decide +kernel)⟩
theorem lw_p43 : lw_okq (⟨"StackedRowsModel", "word", "(I)V"⟩, 32) := ⟨⟨by decide +kernel, by decide +kernel⟩, List.mem_of_getElem? (i := 990) (by decide +kernel), List.mem_of_getElem? (i := 1120) (by decide +kernel), List.mem_of_getElem? (i := 1121) (by decide +kernel)⟩
theorem lw_p44 : lw_okq (⟨"StackedRowsModel", "writeDigits", "(II)V"⟩, 32) := ⟨⟨by decide +kernel, by decide +kernel⟩, List.mem_of_getElem? (i := 990) (by decide +kernel), List.mem_of_getElem? (i := 1124) (by decide +kernel), List.mem_of_getElem? (i := 1125) (by decide +kernel)⟩
theorem lw_p45 : lw_okq (⟨"StackedRowsModel", "writeText", "(II)V"⟩, 32) := ⟨⟨by decide +kernel, by decide +kernel⟩, List.mem_of_getElem? (i := 990) (by decide +kernel), List.mem_of_getElem? (i := 1128) (by decide +kernel), List.mem_of_getElem? (i := 1129) (by decide +kernel)⟩
theorem lw_p46 : lw_okq (⟨"StackedRowsModel", "numberIn", "(II)I"⟩, 32) := ⟨⟨by decide +kernel, by decide +kernel⟩, List.mem_of_getElem? (i := 990) (by decide +kernel), List.mem_of_getElem? (i := 1132) (by decide +kernel), List.mem_of_getElem? (i := 1133) (by decide +kernel)⟩
theorem lw_p47 : lw_okq (⟨"StackedRowsModel", "number", "(I)V"⟩, 32) := ⟨⟨by decide +kernel, by decide +kernel⟩, List.mem_of_getElem? (i := 990) (by decide +kernel), List.mem_of_getElem? (i := 1136) (by decide +kernel), List.mem_of_getElem? (i := 1137) (by decide +kernel)⟩
def lw_privs_3 : List (MethodName × Nat) := [(⟨"StackedRows$Reader", "changeTo", "(I)V"⟩, 8), (⟨"StackedRows$Reader", "readPart", "(I)I"⟩, 8), (⟨"StackedRows$Reader", "readChange", "(II)I"⟩, 8), (⟨"StackedRows$Reader", "readByte", "(I)I"⟩, 8), (⟨"StackedRows$Reader", "readDigits", "(I)I"⟩, 8), (⟨"StackedRows$Reader", "endOfRun", "(II)I"⟩, 8), (⟨"StackedRows$Reader", "readBytes", "(I)I"⟩, 8), (⟨"StackedRows$Reader", "readNumber", "(I)V"⟩, 8), (⟨"StackedRowsModel", "writeAll", "()V"⟩, 32), (⟨"StackedRowsModel", "digitsFrom", "(I)I"⟩, 32), (⟨"StackedRowsModel", "textFrom", "(I)I"⟩, 32), (⟨"StackedRowsModel", "word", "(I)V"⟩, 32), (⟨"StackedRowsModel", "writeDigits", "(II)V"⟩, 32), (⟨"StackedRowsModel", "writeText", "(II)V"⟩, 32), (⟨"StackedRowsModel", "numberIn", "(II)I"⟩, 32), (⟨"StackedRowsModel", "number", "(I)V"⟩, 32)]
theorem lw_r3 : ∀ q ∈ lw_privs_3, lw_okq q := List.forall_mem_cons.mpr ⟨lw_p32, List.forall_mem_cons.mpr ⟨lw_p33, List.forall_mem_cons.mpr ⟨lw_p34, List.forall_mem_cons.mpr ⟨lw_p35, List.forall_mem_cons.mpr ⟨lw_p36, List.forall_mem_cons.mpr ⟨lw_p37, List.forall_mem_cons.mpr ⟨lw_p38, List.forall_mem_cons.mpr ⟨lw_p39, List.forall_mem_cons.mpr ⟨lw_p40, List.forall_mem_cons.mpr ⟨lw_p41, List.forall_mem_cons.mpr ⟨lw_p42, List.forall_mem_cons.mpr ⟨lw_p43, List.forall_mem_cons.mpr ⟨lw_p44, List.forall_mem_cons.mpr ⟨lw_p45, List.forall_mem_cons.mpr ⟨lw_p46, List.forall_mem_cons.mpr ⟨lw_p47, fun _ h => absurd h List.not_mem_nil⟩⟩⟩⟩⟩⟩⟩⟩⟩⟩⟩⟩⟩⟩⟩⟩
theorem lw_p48 : lw_okq (⟨"StackedRowsModel", "change", "(II)V"⟩, 32) := ⟨⟨by decide +kernel, by decide +kernel⟩, List.mem_of_getElem? (i := 990) (by decide +kernel), List.mem_of_getElem? (i := 1140) (by decide +kernel), List.mem_of_getElem? (i := 1141) (by decide +kernel)⟩
theorem lw_p49 : lw_okq (⟨"StackedRowsModel", "bytesFrom", "(I)I"⟩, 32) := ⟨⟨by decide +kernel, by decide +kernel⟩, List.mem_of_getElem? (i := 990) (by decide +kernel), List.mem_of_getElem? (i := 1144) (by decide +kernel), List.mem_of_getElem? (i := 1145) (by decide +kernel)⟩
theorem lw_p50 : lw_okq (⟨"StackedRowsModel", "writeBytes", "(II)V"⟩, 32) := ⟨⟨by decide +kernel, by decide +kernel⟩, List.mem_of_getElem? (i := 990) (by decide +kernel), List.mem_of_getElem? (i := 1148) (by decide +kernel), List.mem_of_getElem? (i := 1149) (by decide +kernel)⟩
theorem lw_p51 : lw_okq (⟨"StackedRowsModel", "makeChecks", "(II)V"⟩, 32) := ⟨⟨by decide +kernel, by decide +kernel⟩, List.mem_of_getElem? (i := 990) (by decide +kernel), List.mem_of_getElem? (i := 1163) (by decide +kernel), List.mem_of_getElem? (i := 1164) (by decide +kernel)⟩
theorem lw_p52 : lw_okq (⟨"StackedRowsModel", "placeOf", "(I)I"⟩, 32) := ⟨⟨by decide +kernel, by decide +kernel⟩, List.mem_of_getElem? (i := 990) (by decide +kernel), List.mem_of_getElem? (i := 1167) (by decide +kernel), List.mem_of_getElem? (i := 1168) (by decide +kernel)⟩
theorem lw_p53 : lw_okq (⟨"StackedRowsModel", "at", "(II)I"⟩, 32) := ⟨⟨by decide +kernel, by decide +kernel⟩, List.mem_of_getElem? (i := 990) (by decide +kernel), List.mem_of_getElem? (i := 1171) (by decide +kernel), List.mem_of_getElem? (i := 1172) (by decide +kernel)⟩
theorem lw_p54 : lw_okq (⟨"StackedRowsModel", "indicator", "(IZI)I"⟩, 32) := ⟨⟨by decide +kernel, by decide +kernel⟩, List.mem_of_getElem? (i := 990) (by decide +kernel), List.mem_of_getElem? (i := 1175) (by decide +kernel), List.mem_of_getElem? (i := 1176) (by decide +kernel)⟩
theorem lw_p55 : lw_okq (⟨"StackedRowsModel", "isPlace", "(II)Z"⟩, 32) := ⟨⟨by decide +kernel, by decide +kernel⟩, List.mem_of_getElem? (i := 990) (by decide +kernel), List.mem_of_getElem? (i := 1187) (by decide +kernel), List.mem_of_getElem? (i := 1188) (by decide +kernel)⟩
theorem lw_p56 : lw_okq (⟨"StackedRowsModel", "solveAll", "()Z"⟩, 32) := ⟨⟨by decide +kernel, by decide +kernel⟩, List.mem_of_getElem? (i := 990) (by decide +kernel), List.mem_of_getElem? (i := 1199) (by decide +kernel), List.mem_of_getElem? (i := 1200) (by decide +kernel)⟩
theorem lw_p57 : lw_okq (⟨"StackedRowsModel", "toldFor", "(I)I"⟩, 32) := ⟨⟨by decide +kernel, by decide +kernel⟩, List.mem_of_getElem? (i := 990) (by decide +kernel), List.mem_of_getElem? (i := 1203) (by decide +kernel), List.mem_of_getElem? (i := 1204) (by decide +kernel)⟩
theorem lw_p58 : lw_okq (⟨"StackedRowsModel", "repair", "(II)Z"⟩, 32) := ⟨⟨by decide +kernel, by decide +kernel⟩, List.mem_of_getElem? (i := 990) (by decide +kernel), List.mem_of_getElem? (i := 1207) (by decide +kernel), List.mem_of_getElem? (i := 1208) (by decide +kernel)⟩
theorem lw_p59 : lw_okq (⟨"StackedRowsModel", "makeSums", "(II)Z"⟩, 32) := ⟨⟨by decide +kernel, by decide +kernel⟩, List.mem_of_getElem? (i := 990) (by decide +kernel), List.mem_of_getElem? (i := 1211) (by decide +kernel), List.mem_of_getElem? (i := 1212) (by decide +kernel)⟩
theorem lw_p60 : lw_okq (⟨"StackedRowsModel", "locator", "(II)I"⟩, 32) := ⟨⟨by decide +kernel, by decide +kernel⟩, List.mem_of_getElem? (i := 990) (by decide +kernel), List.mem_of_getElem? (i := 1218) (by decide +kernel), List.mem_of_getElem? (i := 1219) (by decide +kernel)⟩
theorem lw_p61 : lw_okq (⟨"StackedRowsModel", "divide", "(II)V"⟩, 32) := ⟨⟨by decide +kernel, by decide +kernel⟩, List.mem_of_getElem? (i := 990) (by decide +kernel), List.mem_of_getElem? (i := 1225) (by decide +kernel), List.mem_of_getElem? (i := 1226) (by decide +kernel)⟩
theorem lw_p62 : lw_okq (⟨"StackedRowsModel", "setRight", "(II)Z"⟩, 32) := ⟨⟨by decide +kernel, by decide +kernel⟩, List.mem_of_getElem? (i := 990) (by decide +kernel), List.mem_of_getElem? (i := 1241) (by decide +kernel), List.mem_of_getElem? (i := 1242) (by decide +kernel)⟩
theorem lw_p63 : lw_okq (⟨"StackedRowsModel", "readAll", "(I)Z"⟩, 32) := ⟨⟨by decide +kernel, by decide +kernel⟩, List.mem_of_getElem? (i := 990) (by decide +kernel), List.mem_of_getElem? (i := 1245) (by decide +kernel), List.mem_of_getElem? (i := 1246) (by decide +kernel)⟩
def lw_privs_4 : List (MethodName × Nat) := [(⟨"StackedRowsModel", "change", "(II)V"⟩, 32), (⟨"StackedRowsModel", "bytesFrom", "(I)I"⟩, 32), (⟨"StackedRowsModel", "writeBytes", "(II)V"⟩, 32), (⟨"StackedRowsModel", "makeChecks", "(II)V"⟩, 32), (⟨"StackedRowsModel", "placeOf", "(I)I"⟩, 32), (⟨"StackedRowsModel", "at", "(II)I"⟩, 32), (⟨"StackedRowsModel", "indicator", "(IZI)I"⟩, 32), (⟨"StackedRowsModel", "isPlace", "(II)Z"⟩, 32), (⟨"StackedRowsModel", "solveAll", "()Z"⟩, 32), (⟨"StackedRowsModel", "toldFor", "(I)I"⟩, 32), (⟨"StackedRowsModel", "repair", "(II)Z"⟩, 32), (⟨"StackedRowsModel", "makeSums", "(II)Z"⟩, 32), (⟨"StackedRowsModel", "locator", "(II)I"⟩, 32), (⟨"StackedRowsModel", "divide", "(II)V"⟩, 32), (⟨"StackedRowsModel", "setRight", "(II)Z"⟩, 32), (⟨"StackedRowsModel", "readAll", "(I)Z"⟩, 32)]
theorem lw_r4 : ∀ q ∈ lw_privs_4, lw_okq q := List.forall_mem_cons.mpr ⟨lw_p48, List.forall_mem_cons.mpr ⟨lw_p49, List.forall_mem_cons.mpr ⟨lw_p50, List.forall_mem_cons.mpr ⟨lw_p51, List.forall_mem_cons.mpr ⟨lw_p52, List.forall_mem_cons.mpr ⟨lw_p53, List.forall_mem_cons.mpr ⟨lw_p54, List.forall_mem_cons.mpr ⟨lw_p55, List.forall_mem_cons.mpr ⟨lw_p56, List.forall_mem_cons.mpr ⟨lw_p57, List.forall_mem_cons.mpr ⟨lw_p58, List.forall_mem_cons.mpr ⟨lw_p59, List.forall_mem_cons.mpr ⟨lw_p60, List.forall_mem_cons.mpr ⟨lw_p61, List.forall_mem_cons.mpr ⟨lw_p62, List.forall_mem_cons.mpr ⟨lw_p63, fun _ h => absurd h List.not_mem_nil⟩⟩⟩⟩⟩⟩⟩⟩⟩⟩⟩⟩⟩⟩⟩⟩
theorem lw_p64 : lw_okq (⟨"StackedRowsModel", "fail", "(I)Z"⟩, 32) := ⟨⟨by decide +kernel, by decide +kernel⟩, List.mem_of_getElem? (i := 990) (by decide +kernel), List.mem_of_getElem? (i := 1249) (by decide +kernel), List.mem_of_getElem? (i := 1250) (by decide +kernel)⟩
theorem lw_p65 : lw_okq (⟨"StackedRowsModel", "byteOut", "(I)V"⟩, 32) := ⟨⟨by decide +kernel, by decide +kernel⟩, List.mem_of_getElem? (i := 990) (by decide +kernel), List.mem_of_getElem? (i := 1253) (by decide +kernel), List.mem_of_getElem? (i := 1254) (by decide +kernel)⟩
theorem lw_p66 : lw_okq (⟨"StackedRowsModel", "readNumber", "(I)V"⟩, 32) := ⟨⟨by decide +kernel, by decide +kernel⟩, List.mem_of_getElem? (i := 990) (by decide +kernel), List.mem_of_getElem? (i := 1257) (by decide +kernel), List.mem_of_getElem? (i := 1258) (by decide +kernel)⟩
theorem lw_p67 : lw_okq (⟨"StackedRowsModel", "run", "(II)I"⟩, 32) := ⟨⟨by decide +kernel, by decide +kernel⟩, List.mem_of_getElem? (i := 990) (by decide +kernel), List.mem_of_getElem? (i := 1261) (by decide +kernel), List.mem_of_getElem? (i := 1262) (by decide +kernel)⟩
theorem lw_p68 : lw_okq (⟨"StackedRowsModel", "readDigits", "(II)Z"⟩, 32) := ⟨⟨by decide +kernel, by decide +kernel⟩, List.mem_of_getElem? (i := 990) (by decide +kernel), List.mem_of_getElem? (i := 1265) (by decide +kernel), List.mem_of_getElem? (i := 1266) (by decide +kernel)⟩
theorem lw_p69 : lw_okq (⟨"StackedRowsModel", "readBytes", "(IIZ)Z"⟩, 32) := ⟨⟨by decide +kernel, by decide +kernel⟩, List.mem_of_getElem? (i := 990) (by decide +kernel), List.mem_of_getElem? (i := 1269) (by decide +kernel), List.mem_of_getElem? (i := 1270) (by decide +kernel)⟩
def lw_privs_5 : List (MethodName × Nat) := [(⟨"StackedRowsModel", "fail", "(I)Z"⟩, 32), (⟨"StackedRowsModel", "byteOut", "(I)V"⟩, 32), (⟨"StackedRowsModel", "readNumber", "(I)V"⟩, 32), (⟨"StackedRowsModel", "run", "(II)I"⟩, 32), (⟨"StackedRowsModel", "readDigits", "(II)Z"⟩, 32), (⟨"StackedRowsModel", "readBytes", "(IIZ)Z"⟩, 32)]
theorem lw_r5 : ∀ q ∈ lw_privs_5, lw_okq q := List.forall_mem_cons.mpr ⟨lw_p64, List.forall_mem_cons.mpr ⟨lw_p65, List.forall_mem_cons.mpr ⟨lw_p66, List.forall_mem_cons.mpr ⟨lw_p67, List.forall_mem_cons.mpr ⟨lw_p68, List.forall_mem_cons.mpr ⟨lw_p69, fun _ h => absurd h List.not_mem_nil⟩⟩⟩⟩⟩⟩
def lw_privs : List (MethodName × Nat) := lw_privs_1 ++ (lw_privs_2 ++ (lw_privs_3 ++ (lw_privs_4 ++ (lw_privs_5))))
def lw_tbl : List Cond := k2_sels lw_privs ++ tables_1
theorem lw_privs_ok : ∀ q ∈ lw_privs, lw_okq q := by
  show ∀ q ∈ lw_privs_1 ++ (lw_privs_2 ++ (lw_privs_3 ++ (lw_privs_4 ++ (lw_privs_5)))), lw_okq q
  exact List.forall_mem_append.mpr ⟨lw_r1, List.forall_mem_append.mpr ⟨lw_r2, List.forall_mem_append.mpr ⟨lw_r3, List.forall_mem_append.mpr ⟨lw_r4, lw_r5⟩⟩⟩⟩
def tk_T0 : u_T := fun k => match k with
  | 0 => ("StackedRows", "tape", "LStackedRows$Tape;", true)
  | 1 => ("StackedRows", "writer", "LStackedRows$Writer;", true)
  | 2 => ("StackedRows", "checks", "LStackedRows$Checks;", true)
  | 3 => ("StackedRows", "symbol", "LStackedRows$Symbol;", true)
  | 4 => ("StackedRows", "solver", "LStackedRows$Solver;", true)
  | 5 => ("StackedRows", "row", "[I", true)
  | _ => ("StackedRows", "latest", "[I", true)
def tk_y0 : Nat → FieldType := fun k => match k with
  | 0 => .object "StackedRows$Tape"
  | 1 => .object "StackedRows$Writer"
  | 2 => .object "StackedRows$Checks"
  | 3 => .object "StackedRows$Symbol"
  | 4 => .object "StackedRows$Solver"
  | 5 => .array .int
  | _ => .array .int
theorem tk_n0 : ∀ a, a < 7 → ∀ b, b < 7 → a ≠ b → (tk_T0 a).2.1 ≠ (tk_T0 b).2.1 := by decide +kernel
theorem tk_o0 : ∀ k, k < 7 → parseFieldDescriptor (tk_T0 k).2.2.1 = some (tk_y0 k) := by decide +kernel
def tk_T1 : u_T := fun k => match k with
  | 0 => ("StackedRows$BigNumber", "base", "I", true)
  | _ => ("StackedRows$BigNumber", "cells", "[I", true)
def tk_y1 : Nat → FieldType := fun k => match k with
  | 0 => .int
  | _ => .array .int
theorem tk_n1 : ∀ a, a < 2 → ∀ b, b < 2 → a ≠ b → (tk_T1 a).2.1 ≠ (tk_T1 b).2.1 := by decide +kernel
theorem tk_o1 : ∀ k, k < 2 → parseFieldDescriptor (tk_T1 k).2.2.1 = some (tk_y1 k) := by decide +kernel
def tk_T2 : u_T := fun k => match k with
  | _ => ("StackedRows$Checks", "factors", "[I", true)
def tk_y2 : Nat → FieldType := fun k => match k with
  | _ => .array .int
theorem tk_n2 : ∀ a, a < 1 → ∀ b, b < 1 → a ≠ b → (tk_T2 a).2.1 ≠ (tk_T2 b).2.1 := by decide +kernel
theorem tk_o2 : ∀ k, k < 1 → parseFieldDescriptor (tk_T2 k).2.2.1 = some (tk_y2 k) := by decide +kernel
def tk_T3 : u_T := fun k => match k with
  | 0 => ("StackedRows$Codewords", "cells", "[I", true)
  | _ => ("StackedRows$Codewords", "size", "I", false)
def tk_y3 : Nat → FieldType := fun k => match k with
  | 0 => .array .int
  | _ => .int
theorem tk_n3 : ∀ a, a < 2 → ∀ b, b < 2 → a ≠ b → (tk_T3 a).2.1 ≠ (tk_T3 b).2.1 := by decide +kernel
theorem tk_o3 : ∀ k, k < 2 → parseFieldDescriptor (tk_T3 k).2.2.1 = some (tk_y3 k) := by decide +kernel
def tk_T4 : u_T := fun k => match k with
  | 0 => ("StackedRows$Mender", "mended", "[I", true)
  | 1 => ("StackedRows$Mender", "sums", "[I", true)
  | 2 => ("StackedRows$Mender", "locator", "[I", true)
  | 3 => ("StackedRows$Mender", "earlier", "[I", true)
  | 4 => ("StackedRows$Mender", "kept", "[I", true)
  | 5 => ("StackedRows$Mender", "evaluator", "[I", true)
  | 6 => ("StackedRows$Mender", "n", "I", false)
  | 7 => ("StackedRows$Mender", "k", "I", false)
  | _ => ("StackedRows$Mender", "degree", "I", false)
def tk_y4 : Nat → FieldType := fun k => match k with
  | 0 => .array .int
  | 1 => .array .int
  | 2 => .array .int
  | 3 => .array .int
  | 4 => .array .int
  | 5 => .array .int
  | 6 => .int
  | 7 => .int
  | _ => .int
theorem tk_n4 : ∀ a, a < 9 → ∀ b, b < 9 → a ≠ b → (tk_T4 a).2.1 ≠ (tk_T4 b).2.1 := by decide +kernel
theorem tk_o4 : ∀ k, k < 9 → parseFieldDescriptor (tk_T4 k).2.2.1 = some (tk_y4 k) := by decide +kernel
def tk_T5 : u_T := fun k => match k with
  | 0 => ("StackedRows$Reader", "row", "[I", true)
  | 1 => ("StackedRows$Reader", "out", "LStackedRows$Tape;", true)
  | 2 => ("StackedRows$Reader", "number", "LStackedRows$BigNumber;", true)
  | 3 => ("StackedRows$Reader", "upTo", "I", false)
  | 4 => ("StackedRows$Reader", "way", "I", false)
  | 5 => ("StackedRows$Reader", "set", "LStackedRows$Letters;", false)
  | 6 => ("StackedRows$Reader", "alone", "LStackedRows$Letters;", false)
  | _ => ("StackedRows$Reader", "faultAt", "I", false)
def tk_y5 : Nat → FieldType := fun k => match k with
  | 0 => .array .int
  | 1 => .object "StackedRows$Tape"
  | 2 => .object "StackedRows$BigNumber"
  | 3 => .int
  | 4 => .int
  | 5 => .object "StackedRows$Letters"
  | 6 => .object "StackedRows$Letters"
  | _ => .int
theorem tk_n5 : ∀ a, a < 8 → ∀ b, b < 8 → a ≠ b → (tk_T5 a).2.1 ≠ (tk_T5 b).2.1 := by decide +kernel
theorem tk_o5 : ∀ k, k < 8 → parseFieldDescriptor (tk_T5 k).2.2.1 = some (tk_y5 k) := by decide +kernel
def tk_T6 : u_T := fun k => match k with
  | 0 => ("StackedRows$Solver", "told", "[I", true)
  | 1 => ("StackedRows$Solver", "row", "[I", true)
  | 2 => ("StackedRows$Solver", "mended", "[I", true)
  | 3 => ("StackedRows$Solver", "mender", "LStackedRows$Mender;", true)
  | 4 => ("StackedRows$Solver", "bytes", "LStackedRows$Tape;", true)
  | 5 => ("StackedRows$Solver", "reader", "LStackedRows$Reader;", true)
  | 6 => ("StackedRows$Solver", "faultAt", "I", false)
  | 7 => ("StackedRows$Solver", "wrong", "I", false)
  | _ => ("StackedRows$Solver", "level", "I", false)
def tk_y6 : Nat → FieldType := fun k => match k with
  | 0 => .array .int
  | 1 => .array .int
  | 2 => .array .int
  | 3 => .object "StackedRows$Mender"
  | 4 => .object "StackedRows$Tape"
  | 5 => .object "StackedRows$Reader"
  | 6 => .int
  | 7 => .int
  | _ => .int
theorem tk_n6 : ∀ a, a < 9 → ∀ b, b < 9 → a ≠ b → (tk_T6 a).2.1 ≠ (tk_T6 b).2.1 := by decide +kernel
theorem tk_o6 : ∀ k, k < 9 → parseFieldDescriptor (tk_T6 k).2.2.1 = some (tk_y6 k) := by decide +kernel
def tk_T7 : u_T := fun k => match k with
  | 0 => ("StackedRows$Symbol", "places", "[I", true)
  | 1 => ("StackedRows$Symbol", "rows", "I", false)
  | _ => ("StackedRows$Symbol", "columns", "I", false)
def tk_y7 : Nat → FieldType := fun k => match k with
  | 0 => .array .int
  | 1 => .int
  | _ => .int
theorem tk_n7 : ∀ a, a < 3 → ∀ b, b < 3 → a ≠ b → (tk_T7 a).2.1 ≠ (tk_T7 b).2.1 := by decide +kernel
theorem tk_o7 : ∀ k, k < 3 → parseFieldDescriptor (tk_T7 k).2.2.1 = some (tk_y7 k) := by decide +kernel
def tk_T8 : u_T := fun k => match k with
  | 0 => ("StackedRows$Tape", "bytes", "[I", true)
  | _ => ("StackedRows$Tape", "size", "I", false)
def tk_y8 : Nat → FieldType := fun k => match k with
  | 0 => .array .int
  | _ => .int
theorem tk_n8 : ∀ a, a < 2 → ∀ b, b < 2 → a ≠ b → (tk_T8 a).2.1 ≠ (tk_T8 b).2.1 := by decide +kernel
theorem tk_o8 : ∀ k, k < 2 → parseFieldDescriptor (tk_T8 k).2.2.1 = some (tk_y8 k) := by decide +kernel
def tk_T9 : u_T := fun k => match k with
  | 0 => ("StackedRows$TextWriter", "out", "LStackedRows$Codewords;", true)
  | 1 => ("StackedRows$TextWriter", "set", "LStackedRows$Letters;", false)
  | _ => ("StackedRows$TextWriter", "half", "I", false)
def tk_y9 : Nat → FieldType := fun k => match k with
  | 0 => .object "StackedRows$Codewords"
  | 1 => .object "StackedRows$Letters"
  | _ => .int
theorem tk_n9 : ∀ a, a < 3 → ∀ b, b < 3 → a ≠ b → (tk_T9 a).2.1 ≠ (tk_T9 b).2.1 := by decide +kernel
theorem tk_o9 : ∀ k, k < 3 → parseFieldDescriptor (tk_T9 k).2.2.1 = some (tk_y9 k) := by decide +kernel
def tk_T10 : u_T := fun k => match k with
  | 0 => ("StackedRows$Writer", "tape", "LStackedRows$Tape;", true)
  | 1 => ("StackedRows$Writer", "out", "LStackedRows$Codewords;", true)
  | 2 => ("StackedRows$Writer", "text", "LStackedRows$TextWriter;", true)
  | 3 => ("StackedRows$Writer", "number", "LStackedRows$BigNumber;", true)
  | 4 => ("StackedRows$Writer", "digits", "[I", true)
  | 5 => ("StackedRows$Writer", "texts", "[I", true)
  | 6 => ("StackedRows$Writer", "way", "I", false)
  | _ => ("StackedRows$Writer", "fresh", "Z", false)
def tk_y10 : Nat → FieldType := fun k => match k with
  | 0 => .object "StackedRows$Tape"
  | 1 => .object "StackedRows$Codewords"
  | 2 => .object "StackedRows$TextWriter"
  | 3 => .object "StackedRows$BigNumber"
  | 4 => .array .int
  | 5 => .array .int
  | 6 => .int
  | _ => .boolean
theorem tk_n10 : ∀ a, a < 8 → ∀ b, b < 8 → a ≠ b → (tk_T10 a).2.1 ≠ (tk_T10 b).2.1 := by decide +kernel
theorem tk_o10 : ∀ k, k < 8 → parseFieldDescriptor (tk_T10 k).2.2.1 = some (tk_y10 k) := by decide +kernel
def tk_T11 : u_T := fun k => match k with
  | 0 => ("StackedRowsModel", "thrown", "I", false)
  | 1 => ("StackedRowsModel", "tape", "[I", true)
  | 2 => ("StackedRowsModel", "tapeSize", "I", false)
  | 3 => ("StackedRowsModel", "words", "[I", true)
  | 4 => ("StackedRowsModel", "wordCount", "I", false)
  | 5 => ("StackedRowsModel", "set", "I", false)
  | 6 => ("StackedRowsModel", "waits", "I", false)
  | 7 => ("StackedRowsModel", "mixed", "[I", true)
  | 8 => ("StackedRowsModel", "signs", "[I", true)
  | 9 => ("StackedRowsModel", "rows", "I", false)
  | 10 => ("StackedRowsModel", "columns", "I", false)
  | 11 => ("StackedRowsModel", "places", "[I", true)
  | 12 => ("StackedRowsModel", "fault", "I", false)
  | 13 => ("StackedRowsModel", "faultAt", "I", false)
  | 14 => ("StackedRowsModel", "wrong", "I", false)
  | 15 => ("StackedRowsModel", "told", "I", false)
  | 16 => ("StackedRowsModel", "row", "[I", true)
  | 17 => ("StackedRowsModel", "lost", "[Z", true)
  | 18 => ("StackedRowsModel", "powers", "[I", true)
  | 19 => ("StackedRowsModel", "sums", "[I", true)
  | 20 => ("StackedRowsModel", "counted", "[I", true)
  | 21 => ("StackedRowsModel", "gone", "[I", true)
  | 22 => ("StackedRowsModel", "above", "[I", true)
  | 23 => ("StackedRowsModel", "below", "[I", true)
  | 24 => ("StackedRowsModel", "old", "[I", true)
  | 25 => ("StackedRowsModel", "now", "[I", true)
  | 26 => ("StackedRowsModel", "work", "[I", true)
  | 27 => ("StackedRowsModel", "isWrong", "[Z", true)
  | 28 => ("StackedRowsModel", "out", "[I", true)
  | 29 => ("StackedRowsModel", "outSize", "I", false)
  | 30 => ("StackedRowsModel", "digits", "[I", true)
  | _ => ("StackedRowsModel", "alone", "I", false)
def tk_y11 : Nat → FieldType := fun k => match k with
  | 0 => .int
  | 1 => .array .int
  | 2 => .int
  | 3 => .array .int
  | 4 => .int
  | 5 => .int
  | 6 => .int
  | 7 => .array .int
  | 8 => .array .int
  | 9 => .int
  | 10 => .int
  | 11 => .array .int
  | 12 => .int
  | 13 => .int
  | 14 => .int
  | 15 => .int
  | 16 => .array .int
  | 17 => .array .boolean
  | 18 => .array .int
  | 19 => .array .int
  | 20 => .array .int
  | 21 => .array .int
  | 22 => .array .int
  | 23 => .array .int
  | 24 => .array .int
  | 25 => .array .int
  | 26 => .array .int
  | 27 => .array .boolean
  | 28 => .array .int
  | 29 => .int
  | 30 => .array .int
  | _ => .int
theorem tk_n11 : ∀ a, a < 32 → ∀ b, b < 32 → a ≠ b → (tk_T11 a).2.1 ≠ (tk_T11 b).2.1 := by decide +kernel
theorem tk_o11 : ∀ k, k < 32 → parseFieldDescriptor (tk_T11 k).2.2.1 = some (tk_y11 k) := by decide +kernel
abbrev vwCl : List vw_C := [("StackedRows", tk_T0, 7), ("StackedRows$BigNumber", tk_T1, 2), ("StackedRows$Checks", tk_T2, 1), ("StackedRows$Codewords", tk_T3, 2), ("StackedRows$Mender", tk_T4, 9), ("StackedRows$Reader", tk_T5, 8), ("StackedRows$Solver", tk_T6, 9), ("StackedRows$Symbol", tk_T7, 3), ("StackedRows$Tape", tk_T8, 2), ("StackedRows$TextWriter", tk_T9, 3), ("StackedRows$Writer", tk_T10, 8), ("StackedRowsModel", tk_T11, 32)]
def yy_TP_init : MethodName := ⟨"StackedRows$Tape", "<init>", "()V"⟩
abbrev cd_TP_init : ByteArray := prog_10_method_1_code
def yy_TP_size : MethodName := ⟨"StackedRows$Tape", "size", "()I"⟩
abbrev cd_TP_size : ByteArray := prog_10_method_2_code
def yy_TP_add : MethodName := ⟨"StackedRows$Tape", "add", "(I)V"⟩
abbrev cd_TP_add : ByteArray := prog_10_method_4_code
def yy_TP_addFour : MethodName := ⟨"StackedRows$Tape", "addFour", "(I)V"⟩
abbrev cd_TP_addFour : ByteArray := prog_10_method_5_code
def yy_TP_cut : MethodName := ⟨"StackedRows$Tape", "cut", "(I)V"⟩
abbrev cd_TP_cut : ByteArray := prog_10_method_6_code
def yy_CW_init : MethodName := ⟨"StackedRows$Codewords", "<init>", "()V"⟩
abbrev cd_CW_init : ByteArray := prog_4_method_1_code
def yy_CW_size : MethodName := ⟨"StackedRows$Codewords", "size", "()I"⟩
abbrev cd_CW_size : ByteArray := prog_4_method_2_code
def yy_CW_clear : MethodName := ⟨"StackedRows$Codewords", "clear", "()V"⟩
abbrev cd_CW_clear : ByteArray := prog_4_method_5_code
def yy_BN_init : MethodName := ⟨"StackedRows$BigNumber", "<init>", "(II)V"⟩
abbrev cd_BN_init : ByteArray := prog_2_method_1_code
def yy_TW_init : MethodName := ⟨"StackedRows$TextWriter", "<init>", "(LStackedRows$Codewords;)V"⟩
abbrev cd_TW_init : ByteArray := prog_11_method_1_code
def yy_TW_beginWithCapitals : MethodName := ⟨"StackedRows$TextWriter", "beginWithCapitals", "()V"⟩
abbrev cd_TW_beginWithCapitals : ByteArray := prog_11_method_2_code
def yy_WR_init : MethodName := ⟨"StackedRows$Writer", "<init>", "(LStackedRows$Tape;)V"⟩
abbrev cd_WR_init : ByteArray := prog_12_method_1_code
def yy_WR_forget : MethodName := ⟨"StackedRows$Writer", "forget", "()V"⟩
abbrev cd_WR_forget : ByteArray := prog_12_method_2_code
def yy_WR_size : MethodName := ⟨"StackedRows$Writer", "size", "()I"⟩
abbrev cd_WR_size : ByteArray := prog_12_method_3_code
def yy_WR_measure : MethodName := ⟨"StackedRows$Writer", "measure", "(I)V"⟩
abbrev cd_WR_measure : ByteArray := prog_12_method_6_code
def yy_WR_write : MethodName := ⟨"StackedRows$Writer", "write", "()V"⟩
abbrev cd_WR_write : ByteArray := prog_12_method_5_code
def yy_SY_init : MethodName := ⟨"StackedRows$Symbol", "<init>", "()V"⟩
abbrev cd_SY_init : ByteArray := prog_9_method_1_code
def yy_SY_isThere : MethodName := ⟨"StackedRows$Symbol", "isThere", "()Z"⟩
abbrev cd_SY_isThere : ByteArray := prog_9_method_2_code
def yy_SY_rows : MethodName := ⟨"StackedRows$Symbol", "rows", "()I"⟩
abbrev cd_SY_rows : ByteArray := prog_9_method_3_code
def yy_SY_columns : MethodName := ⟨"StackedRows$Symbol", "columns", "()I"⟩
abbrev cd_SY_columns : ByteArray := prog_9_method_4_code
def yy_SY_leftKind : MethodName := ⟨"StackedRows$Symbol", "leftKind", "(I)I"⟩
abbrev cd_SY_leftKind : ByteArray := prog_9_method_11_code
def yy_SY_rightKind : MethodName := ⟨"StackedRows$Symbol", "rightKind", "(I)I"⟩
abbrev cd_SY_rightKind : ByteArray := prog_9_method_12_code
def yy_SY_indicated : MethodName := ⟨"StackedRows$Symbol", "indicated", "(II)I"⟩
abbrev cd_SY_indicated : ByteArray := prog_9_method_13_code
def yy_SY_has : MethodName := ⟨"StackedRows$Symbol", "has", "(II)Z"⟩
abbrev cd_SY_has : ByteArray := prog_9_method_6_code
def yy_SY_set : MethodName := ⟨"StackedRows$Symbol", "set", "(III)V"⟩
abbrev cd_SY_set : ByteArray := prog_9_method_8_code
def yy_AR_fill : MethodName := ⟨"java/util/Arrays", "fill", "([II)V"⟩
abbrev cd_AR_fill : ByteArray := prog_29_method_103_code
def yy_SY_begin : MethodName := ⟨"StackedRows$Symbol", "begin", "(II)V"⟩
abbrev cd_SY_begin : ByteArray := prog_9_method_5_code
def yy_SY_fill : MethodName := ⟨"StackedRows$Symbol", "fill", "([II)V"⟩
abbrev cd_SY_fill : ByteArray := prog_9_method_9_code
def yy_SR_negative : MethodName := ⟨"StackedRows", "negative", "(I)I"⟩
abbrev cd_SR_negative : ByteArray := prog_1_method_19_code
def yy_SR_checksOf : MethodName := ⟨"StackedRows", "checksOf", "(I)I"⟩
abbrev cd_SR_checksOf : ByteArray := prog_1_method_16_code
def yy_SR_rowsFor : MethodName := ⟨"StackedRows", "rowsFor", "(II)I"⟩
abbrev cd_SR_rowsFor : ByteArray := prog_1_method_14_code
def yy_CK_init : MethodName := ⟨"StackedRows$Checks", "<init>", "()V"⟩
abbrev cd_CK_init : ByteArray := prog_3_method_1_code
def yy_CK_multiplyFactors : MethodName := ⟨"StackedRows$Checks", "multiplyFactors", "(I)V"⟩
abbrev cd_CK_multiplyFactors : ByteArray := prog_3_method_3_code
def yy_CK_divide : MethodName := ⟨"StackedRows$Checks", "divide", "([III)V"⟩
abbrev cd_CK_divide : ByteArray := prog_3_method_4_code
def yy_CK_write : MethodName := ⟨"StackedRows$Checks", "write", "([III)V"⟩
abbrev cd_CK_write : ByteArray := prog_3_method_2_code
def yy_MD_init : MethodName := ⟨"StackedRows$Mender", "<init>", "([I)V"⟩
abbrev cd_MD_init : ByteArray := prog_6_method_1_code
def yy_RD_init : MethodName := ⟨"StackedRows$Reader", "<init>", "([ILStackedRows$Tape;)V"⟩
abbrev cd_RD_init : ByteArray := prog_7_method_1_code
def yy_SV_init : MethodName := ⟨"StackedRows$Solver", "<init>", "([I)V"⟩
abbrev cd_SV_init : ByteArray := prog_8_method_1_code
def yy_SR_init : MethodName := ⟨"StackedRows", "<init>", "()V"⟩
abbrev cd_SR_init : ByteArray := prog_1_method_1_code
def yy_SR_feed : MethodName := ⟨"StackedRows", "feed", "(IIIII)I"⟩
abbrev cd_SR_feed : ByteArray := prog_1_method_2_code
def yy_SR_end : MethodName := ⟨"StackedRows", "end", "(I)V"⟩
abbrev cd_SR_end : ByteArray := prog_1_method_3_code
def yy_SR_byteAt : MethodName := ⟨"StackedRows", "byteAt", "(I)I"⟩
abbrev cd_SR_byteAt : ByteArray := prog_1_method_4_code
def yy_SR_codewords : MethodName := ⟨"StackedRows", "codewords", "()I"⟩
abbrev cd_SR_codewords : ByteArray := prog_1_method_5_code
def yy_SR_codeword : MethodName := ⟨"StackedRows", "codeword", "(I)I"⟩
abbrev cd_SR_codeword : ByteArray := prog_1_method_6_code
def yy_SR_make : MethodName := ⟨"StackedRows", "make", "(II)I"⟩
abbrev cd_SR_make : ByteArray := prog_1_method_7_code
def yy_SR_fillRow : MethodName := ⟨"StackedRows", "fillRow", "(I)V"⟩
abbrev cd_SR_fillRow : ByteArray := prog_1_method_15_code
def yy_SR_blank : MethodName := ⟨"StackedRows", "blank", "(II)V"⟩
abbrev cd_SR_blank : ByteArray := prog_1_method_8_code
def yy_SR_place : MethodName := ⟨"StackedRows", "place", "(II)I"⟩
abbrev cd_SR_place : ByteArray := prog_1_method_9_code
def yy_SR_put : MethodName := ⟨"StackedRows", "put", "(III)V"⟩
abbrev cd_SR_put : ByteArray := prog_1_method_10_code
def yy_SR_solve : MethodName := ⟨"StackedRows", "solve", "()I"⟩
abbrev cd_SR_solve : ByteArray := prog_1_method_11_code
def yy_SR_solved : MethodName := ⟨"StackedRows", "solved", "(I)I"⟩
abbrev cd_SR_solved : ByteArray := prog_1_method_12_code
def yy_SR_count : MethodName := ⟨"StackedRows", "count", "(I)I"⟩
abbrev cd_SR_count : ByteArray := prog_1_method_13_code
def yy_MO_init : MethodName := ⟨"StackedRowsModel", "<init>", "()V"⟩
abbrev cd_MO_init : ByteArray := prog_14_method_1_code
def yy_MO_thrown : MethodName := ⟨"StackedRowsModel", "thrown", "()I"⟩
abbrev cd_MO_thrown : ByteArray := prog_14_method_2_code
def yy_MO_writeAll : MethodName := ⟨"StackedRowsModel", "writeAll", "()V"⟩
abbrev cd_MO_writeAll : ByteArray := prog_14_method_15_code
def yy_MO_codewords : MethodName := ⟨"StackedRowsModel", "codewords", "()I"⟩
abbrev cd_MO_codewords : ByteArray := prog_14_method_16_code
def yy_MO_codeword : MethodName := ⟨"StackedRowsModel", "codeword", "(I)I"⟩
abbrev cd_MO_codeword : ByteArray := prog_14_method_17_code
def yy_MO_feed : MethodName := ⟨"StackedRowsModel", "feed", "(IIIII)I"⟩
abbrev cd_MO_feed : ByteArray := prog_14_method_50_code
def yy_MO_end : MethodName := ⟨"StackedRowsModel", "end", "(I)V"⟩
abbrev cd_MO_end : ByteArray := prog_14_method_51_code
def yy_MO_byteAt : MethodName := ⟨"StackedRowsModel", "byteAt", "(I)I"⟩
abbrev cd_MO_byteAt : ByteArray := prog_14_method_52_code
def yy_MO_solve : MethodName := ⟨"StackedRowsModel", "solve", "()I"⟩
abbrev cd_MO_solve : ByteArray := prog_14_method_48_code
def yy_MO_place : MethodName := ⟨"StackedRowsModel", "place", "(II)I"⟩
abbrev cd_MO_place : ByteArray := prog_14_method_25_code
def yy_MO_put : MethodName := ⟨"StackedRowsModel", "put", "(III)V"⟩
abbrev cd_MO_put : ByteArray := prog_14_method_26_code
def yy_MO_solved : MethodName := ⟨"StackedRowsModel", "solved", "(I)I"⟩
abbrev cd_MO_solved : ByteArray := prog_14_method_49_code
def yy_MO_count : MethodName := ⟨"StackedRowsModel", "count", "(I)I"⟩
abbrev cd_MO_count : ByteArray := prog_14_method_53_code
def yy_MO_make : MethodName := ⟨"StackedRowsModel", "make", "(II)I"⟩
abbrev cd_MO_make : ByteArray := prog_14_method_22_code
def yy_MO_at : MethodName := ⟨"StackedRowsModel", "at", "(II)I"⟩
abbrev cd_MO_at : ByteArray := prog_14_method_19_code
def yy_MO_placeOf : MethodName := ⟨"StackedRowsModel", "placeOf", "(I)I"⟩
abbrev cd_MO_placeOf : ByteArray := prog_14_method_20_code
def yy_MO_indicator : MethodName := ⟨"StackedRowsModel", "indicator", "(IZI)I"⟩
abbrev cd_MO_indicator : ByteArray := prog_14_method_18_code
def yy_MO_makeChecks : MethodName := ⟨"StackedRowsModel", "makeChecks", "(II)V"⟩
abbrev cd_MO_makeChecks : ByteArray := prog_14_method_21_code
def yy_MO_blank : MethodName := ⟨"StackedRowsModel", "blank", "(II)V"⟩
abbrev cd_MO_blank : ByteArray := prog_14_method_23_code
def yy_LW_feed : MethodName := ⟨"StackedRowsLaw", "feed", "(LStackedRows;IIIII[J)I"⟩
abbrev cd_LW_feed : ByteArray := method_3_code
def yy_LW_end : MethodName := ⟨"StackedRowsLaw", "end", "(LStackedRows;I)I"⟩
abbrev cd_LW_end : ByteArray := method_4_code
def yy_LW_byteAt : MethodName := ⟨"StackedRowsLaw", "byteAt", "(LStackedRows;I[J)I"⟩
abbrev cd_LW_byteAt : ByteArray := method_5_code
def yy_LW_codeword : MethodName := ⟨"StackedRowsLaw", "codeword", "(LStackedRows;I[J)I"⟩
abbrev cd_LW_codeword : ByteArray := method_6_code
def yy_LW_make : MethodName := ⟨"StackedRowsLaw", "make", "(LStackedRows;II[J)I"⟩
abbrev cd_LW_make : ByteArray := method_7_code
def yy_LW_blank : MethodName := ⟨"StackedRowsLaw", "blank", "(LStackedRows;II)I"⟩
abbrev cd_LW_blank : ByteArray := method_8_code
def yy_LW_place : MethodName := ⟨"StackedRowsLaw", "place", "(LStackedRows;II[J)I"⟩
abbrev cd_LW_place : ByteArray := method_9_code
def yy_LW_put : MethodName := ⟨"StackedRowsLaw", "put", "(LStackedRows;III)I"⟩
abbrev cd_LW_put : ByteArray := method_10_code
def yy_LW_solve : MethodName := ⟨"StackedRowsLaw", "solve", "(LStackedRows;[J)I"⟩
abbrev cd_LW_solve : ByteArray := method_11_code
def yy_LW_solved : MethodName := ⟨"StackedRowsLaw", "solved", "(LStackedRows;I[J)I"⟩
abbrev cd_LW_solved : ByteArray := method_12_code
def yy_LW_count : MethodName := ⟨"StackedRowsLaw", "count", "(LStackedRows;I[J)I"⟩
abbrev cd_LW_count : ByteArray := method_13_code
def yy_LW_law : MethodName := ⟨"StackedRowsLaw", "law", "([I)Z"⟩
abbrev cd_LW_law : ByteArray := code
abbrev xn_neg : Cond := .methodLinkNest "StackedRows$Checks" 23 yy_SR_negative "StackedRows"
-- the words that every method leans on: those of the tables that hold at every later state too
def xt_ok (w : Cond) : Bool := (w.onTables && w.keeps) || (match w with | .arrayClass _ => true | _ => false)
def xt_T : List Cond := lw_tbl.filter xt_ok
theorem xt_in {w : Cond} (h : w ∈ lw_tbl) (ho : xt_ok w = true) : w ∈ xt_T := List.mem_filter.mpr ⟨h, ho⟩
theorem xt_good {w : Cond} (h : w ∈ xt_T) : (w.onTables && w.keeps) = true ∨ ∃ ty, w = .arrayClass ty := by
  have h2 := (List.mem_filter.mp h).2
  unfold xt_ok at h2
  rw [Bool.or_eq_true] at h2
  rcases h2 with h2 | h2
  · exact Or.inl h2
  · cases w <;> first | exact Or.inr ⟨_, rfl⟩ | exact absurd h2 (by simp)
theorem xt_all {args : Array Value} {s : State} (h : ∀ w ∈ lw_tbl, w.before args s = true) : ∀ w ∈ xt_T, w.before args s = true := fun w hw => h w (List.mem_filter.mp hw).1
theorem xt_sub {y : MethodName} {b : ByteArray} {n : Nat} {r : Option FieldType} (h : Cond.code y b n r ∈ xt_T) : GoodIn xt_T (.code y b n r :: xt_T) := by
  intro w hw
  rcases List.mem_cons.mp hw with rfl | hw
  · exact ⟨h, xt_good h⟩
  · exact ⟨hw, xt_good hw⟩
theorem xt_V {own C : String} {idx : Nat} {y : MethodName} {b : ByteArray} {n : Nat} {r : Option FieldType} (h1 : Cond.methodLink own idx y ∈ xt_T) (h2 : Cond.instanceMethod y ∈ xt_T) (h3 : Cond.selects C y y ∈ xt_T) (h4 : Cond.initialized C ∈ xt_T) (h5 : Cond.code y b n r ∈ xt_T) : GoodIn xt_T (wsV own idx C y (.code y b n r :: xt_T)) := by
  intro w hw
  unfold wsV at hw
  rcases List.mem_append.mp hw with hw | hw
  · simp only [List.mem_cons, List.not_mem_nil, or_false] at hw
    rcases hw with rfl | rfl | rfl | rfl
    · exact ⟨h1, xt_good h1⟩
    · exact ⟨h2, xt_good h2⟩
    · exact ⟨h3, xt_good h3⟩
    · exact ⟨h4, xt_good h4⟩
  · exact xt_sub h5 w hw
-- the tables' numbers: classes and slots, the classes of int[], long[], boolean[]
abbrev xg_G : Type := va_G × ClassId × ClassId × ClassId
abbrev xg_t (g : xg_G) : List (ClassId × FieldType) := [(g.2.1, .int), (g.2.2.1, .long), (g.2.2.2, .boolean)]
abbrev oc_o (q ci : Nat) (fs : List Value) : Nat × va_E := (q, .inr (ci, fs))
abbrev oc_i (g : xg_G) (q n : Nat) (f : Nat → Int32) : Nat × va_E := (q, .inl (g.2.1, n, .inl f))
abbrev oc_z (g : xg_G) (q n : Nat) (f : Nat → Int32) : Nat × va_E := (q, .inl (g.2.2.2, n, .inl f))
abbrev oc_l (g : xg_G) (q n : Nat) (f : Nat → Int64) : Nat × va_E := (q, .inl (g.2.2.1, n, .inr (.inl f)))
end
section
section XX
variable {p : Program} {l : Launch} {e : Env} {R : Room} {s : State} {m : MethodId} {args : Array Value} {below : List Frame} {meth : Method} {c : Code} {H : Heap} {locs : List Loc} {cells slots : Nat} {Q : State → Prop}
variable {cc : ByteArray} {pc nL : Nat} {ls : Array Slot} {rest : List Value} {g : xg_G} {A : Nat → Prop} {a : Nat} {ws : va_W} {k1 k2 : Nat}
theorem cl_SR_112 : Cond.classLink "StackedRows" 112 "java/lang/IllegalStateException" ∈ xt_T := xt_in (List.mem_of_getElem? (i := 811) (by decide +kernel)) (by decide +kernel)
theorem cl_SR_59 : Cond.classLink "StackedRows" 59 "java/lang/UnsupportedOperationException" ∈ xt_T := xt_in (List.mem_of_getElem? (i := 591) (by decide +kernel)) (by decide +kernel)
theorem cl_SR_69 : Cond.classLink "StackedRows" 69 "java/lang/IllegalArgumentException" ∈ xt_T := xt_in (List.mem_of_getElem? (i := 675) (by decide +kernel)) (by decide +kernel)
theorem cl_SR_75 : Cond.classLink "StackedRows" 75 "java/lang/IndexOutOfBoundsException" ∈ xt_T := xt_in (List.mem_of_getElem? (i := 702) (by decide +kernel)) (by decide +kernel)
theorem cl_LW_13 : Cond.classLink "StackedRowsLaw" 13 "java/lang/UnsupportedOperationException" ∈ xt_T := xt_in (List.mem_of_getElem? (i := 585) (by decide +kernel)) (by decide +kernel)
theorem cl_LW_19 : Cond.classLink "StackedRowsLaw" 19 "java/lang/IllegalArgumentException" ∈ xt_T := xt_in (List.mem_of_getElem? (i := 670) (by decide +kernel)) (by decide +kernel)
theorem cl_LW_25 : Cond.classLink "StackedRowsLaw" 25 "java/lang/IndexOutOfBoundsException" ∈ xt_T := xt_in (List.mem_of_getElem? (i := 697) (by decide +kernel)) (by decide +kernel)
theorem cl_LW_41 : Cond.classLink "StackedRowsLaw" 41 "java/lang/IllegalStateException" ∈ xt_T := xt_in (List.mem_of_getElem? (i := 802) (by decide +kernel)) (by decide +kernel)
theorem wn_XA : Cond.initialized "java/lang/IllegalArgumentException" ∈ xt_T := xt_in (List.mem_of_getElem? (i := 90) (by decide +kernel)) (by decide +kernel)
theorem wn_XS : Cond.initialized "java/lang/IllegalStateException" ∈ xt_T := xt_in (List.mem_of_getElem? (i := 98) (by decide +kernel)) (by decide +kernel)
theorem wn_XI : Cond.initialized "java/lang/IndexOutOfBoundsException" ∈ xt_T := xt_in (List.mem_of_getElem? (i := 91) (by decide +kernel)) (by decide +kernel)
theorem wn_XU : Cond.initialized "java/lang/UnsupportedOperationException" ∈ xt_T := xt_in (List.mem_of_getElem? (i := 89) (by decide +kernel)) (by decide +kernel)
theorem wk_XA : Cond.instantiable "java/lang/IllegalArgumentException" 6 ∈ xt_T := xt_in (List.mem_of_getElem? (i := 676) (by decide +kernel)) (by decide +kernel)
theorem wk_XS : Cond.instantiable "java/lang/IllegalStateException" 6 ∈ xt_T := xt_in (List.mem_of_getElem? (i := 812) (by decide +kernel)) (by decide +kernel)
theorem wk_XI : Cond.instantiable "java/lang/IndexOutOfBoundsException" 6 ∈ xt_T := xt_in (List.mem_of_getElem? (i := 703) (by decide +kernel)) (by decide +kernel)
theorem wk_XU : Cond.instantiable "java/lang/UnsupportedOperationException" 6 ∈ xt_T := xt_in (List.mem_of_getElem? (i := 592) (by decide +kernel)) (by decide +kernel)
theorem wc_BN_init : Cond.code yy_BN_init cd_BN_init 3 none ∈ xt_T := xt_in (List.mem_of_getElem? (i := 163) (by decide +kernel)) (by decide +kernel)
theorem wn_BN : Cond.initialized "StackedRows$BigNumber" ∈ xt_T := xt_in (List.mem_of_getElem? (i := 78) (by decide +kernel)) (by decide +kernel)
theorem wi_BN_init : Cond.instanceMethod yy_BN_init ∈ xt_T := xt_in (List.mem_of_getElem? (i := 162) (by decide +kernel)) (by decide +kernel)
theorem wc_CK_init : Cond.code yy_CK_init cd_CK_init 1 none ∈ xt_T := xt_in (List.mem_of_getElem? (i := 204) (by decide +kernel)) (by decide +kernel)
theorem wn_CK : Cond.initialized "StackedRows$Checks" ∈ xt_T := xt_in (List.mem_of_getElem? (i := 80) (by decide +kernel)) (by decide +kernel)
theorem wi_CK_init : Cond.instanceMethod yy_CK_init ∈ xt_T := xt_in (List.mem_of_getElem? (i := 203) (by decide +kernel)) (by decide +kernel)
theorem wc_CK_divide : Cond.code yy_CK_divide cd_CK_divide 7 none ∈ xt_T := xt_in (List.mem_of_getElem? (i := 764) (by decide +kernel)) (by decide +kernel)
theorem wi_CK_divide : Cond.instanceMethod yy_CK_divide ∈ xt_T := xt_in (List.mem_of_getElem? (i := 763) (by decide +kernel)) (by decide +kernel)
theorem wx_CK_divide : Cond.selects "StackedRows$Checks" yy_CK_divide yy_CK_divide ∈ xt_T := xt_in (List.mem_of_getElem? (i := 14) (by decide +kernel)) (by decide +kernel)
theorem wc_CK_multiplyFactors : Cond.code yy_CK_multiplyFactors cd_CK_multiplyFactors 6 none ∈ xt_T := xt_in (List.mem_of_getElem? (i := 757) (by decide +kernel)) (by decide +kernel)
theorem wi_CK_multiplyFactors : Cond.instanceMethod yy_CK_multiplyFactors ∈ xt_T := xt_in (List.mem_of_getElem? (i := 756) (by decide +kernel)) (by decide +kernel)
theorem wx_CK_multiplyFactors : Cond.selects "StackedRows$Checks" yy_CK_multiplyFactors yy_CK_multiplyFactors ∈ xt_T := xt_in (List.mem_of_getElem? (i := 13) (by decide +kernel)) (by decide +kernel)
theorem wc_CK_write : Cond.code yy_CK_write cd_CK_write 5 none ∈ xt_T := xt_in (List.mem_of_getElem? (i := 753) (by decide +kernel)) (by decide +kernel)
theorem wi_CK_write : Cond.instanceMethod yy_CK_write ∈ xt_T := xt_in (List.mem_of_getElem? (i := 751) (by decide +kernel)) (by decide +kernel)
theorem wx_CK_write : Cond.selects "StackedRows$Checks" yy_CK_write yy_CK_write ∈ xt_T := xt_in (List.mem_of_getElem? (i := 752) (by decide +kernel)) (by decide +kernel)
theorem wc_CW_init : Cond.code yy_CW_init cd_CW_init 1 none ∈ xt_T := xt_in (List.mem_of_getElem? (i := 132) (by decide +kernel)) (by decide +kernel)
theorem wn_CW : Cond.initialized "StackedRows$Codewords" ∈ xt_T := xt_in (List.mem_of_getElem? (i := 74) (by decide +kernel)) (by decide +kernel)
theorem wi_CW_init : Cond.instanceMethod yy_CW_init ∈ xt_T := xt_in (List.mem_of_getElem? (i := 131) (by decide +kernel)) (by decide +kernel)
theorem wc_CW_clear : Cond.code yy_CW_clear cd_CW_clear 1 none ∈ xt_T := xt_in (List.mem_of_getElem? (i := 387) (by decide +kernel)) (by decide +kernel)
theorem wi_CW_clear : Cond.instanceMethod yy_CW_clear ∈ xt_T := xt_in (List.mem_of_getElem? (i := 385) (by decide +kernel)) (by decide +kernel)
theorem wx_CW_clear : Cond.selects "StackedRows$Codewords" yy_CW_clear yy_CW_clear ∈ xt_T := xt_in (List.mem_of_getElem? (i := 386) (by decide +kernel)) (by decide +kernel)
theorem wc_CW_size : Cond.code yy_CW_size cd_CW_size 1 (some .int) ∈ xt_T := xt_in (List.mem_of_getElem? (i := 581) (by decide +kernel)) (by decide +kernel)
theorem wi_CW_size : Cond.instanceMethod yy_CW_size ∈ xt_T := xt_in (List.mem_of_getElem? (i := 579) (by decide +kernel)) (by decide +kernel)
theorem wx_CW_size : Cond.selects "StackedRows$Codewords" yy_CW_size yy_CW_size ∈ xt_T := xt_in (List.mem_of_getElem? (i := 580) (by decide +kernel)) (by decide +kernel)
theorem wc_MD_init : Cond.code yy_MD_init cd_MD_init 2 none ∈ xt_T := xt_in (List.mem_of_getElem? (i := 236) (by decide +kernel)) (by decide +kernel)
theorem wn_MD : Cond.initialized "StackedRows$Mender" ∈ xt_T := xt_in (List.mem_of_getElem? (i := 83) (by decide +kernel)) (by decide +kernel)
theorem wi_MD_init : Cond.instanceMethod yy_MD_init ∈ xt_T := xt_in (List.mem_of_getElem? (i := 235) (by decide +kernel)) (by decide +kernel)
theorem wc_RD_init : Cond.code yy_RD_init cd_RD_init 3 none ∈ xt_T := xt_in (List.mem_of_getElem? (i := 272) (by decide +kernel)) (by decide +kernel)
theorem wn_RD : Cond.initialized "StackedRows$Reader" ∈ xt_T := xt_in (List.mem_of_getElem? (i := 84) (by decide +kernel)) (by decide +kernel)
theorem wi_RD_init : Cond.instanceMethod yy_RD_init ∈ xt_T := xt_in (List.mem_of_getElem? (i := 271) (by decide +kernel)) (by decide +kernel)
theorem wc_SV_init : Cond.code yy_SV_init cd_SV_init 2 none ∈ xt_T := xt_in (List.mem_of_getElem? (i := 230) (by decide +kernel)) (by decide +kernel)
theorem wn_SV : Cond.initialized "StackedRows$Solver" ∈ xt_T := xt_in (List.mem_of_getElem? (i := 82) (by decide +kernel)) (by decide +kernel)
theorem wi_SV_init : Cond.instanceMethod yy_SV_init ∈ xt_T := xt_in (List.mem_of_getElem? (i := 229) (by decide +kernel)) (by decide +kernel)
theorem wc_SY_init : Cond.code yy_SY_init cd_SY_init 1 none ∈ xt_T := xt_in (List.mem_of_getElem? (i := 214) (by decide +kernel)) (by decide +kernel)
theorem wn_SY : Cond.initialized "StackedRows$Symbol" ∈ xt_T := xt_in (List.mem_of_getElem? (i := 81) (by decide +kernel)) (by decide +kernel)
theorem wi_SY_init : Cond.instanceMethod yy_SY_init ∈ xt_T := xt_in (List.mem_of_getElem? (i := 213) (by decide +kernel)) (by decide +kernel)
theorem wc_SY_begin : Cond.code yy_SY_begin cd_SY_begin 3 none ∈ xt_T := xt_in (List.mem_of_getElem? (i := 768) (by decide +kernel)) (by decide +kernel)
theorem wi_SY_begin : Cond.instanceMethod yy_SY_begin ∈ xt_T := xt_in (List.mem_of_getElem? (i := 766) (by decide +kernel)) (by decide +kernel)
theorem wx_SY_begin : Cond.selects "StackedRows$Symbol" yy_SY_begin yy_SY_begin ∈ xt_T := xt_in (List.mem_of_getElem? (i := 767) (by decide +kernel)) (by decide +kernel)
theorem wc_SY_columns : Cond.code yy_SY_columns cd_SY_columns 1 (some .int) ∈ xt_T := xt_in (List.mem_of_getElem? (i := 869) (by decide +kernel)) (by decide +kernel)
theorem wi_SY_columns : Cond.instanceMethod yy_SY_columns ∈ xt_T := xt_in (List.mem_of_getElem? (i := 867) (by decide +kernel)) (by decide +kernel)
theorem wx_SY_columns : Cond.selects "StackedRows$Symbol" yy_SY_columns yy_SY_columns ∈ xt_T := xt_in (List.mem_of_getElem? (i := 868) (by decide +kernel)) (by decide +kernel)
theorem wc_SY_fill : Cond.code yy_SY_fill cd_SY_fill 5 none ∈ xt_T := xt_in (List.mem_of_getElem? (i := 773) (by decide +kernel)) (by decide +kernel)
theorem wi_SY_fill : Cond.instanceMethod yy_SY_fill ∈ xt_T := xt_in (List.mem_of_getElem? (i := 771) (by decide +kernel)) (by decide +kernel)
theorem wx_SY_fill : Cond.selects "StackedRows$Symbol" yy_SY_fill yy_SY_fill ∈ xt_T := xt_in (List.mem_of_getElem? (i := 772) (by decide +kernel)) (by decide +kernel)
theorem wc_SY_has : Cond.code yy_SY_has cd_SY_has 3 (some .boolean) ∈ xt_T := xt_in (List.mem_of_getElem? (i := 788) (by decide +kernel)) (by decide +kernel)
theorem wi_SY_has : Cond.instanceMethod yy_SY_has ∈ xt_T := xt_in (List.mem_of_getElem? (i := 786) (by decide +kernel)) (by decide +kernel)
theorem wx_SY_has : Cond.selects "StackedRows$Symbol" yy_SY_has yy_SY_has ∈ xt_T := xt_in (List.mem_of_getElem? (i := 787) (by decide +kernel)) (by decide +kernel)
theorem wc_SY_indicated : Cond.code yy_SY_indicated cd_SY_indicated 3 (some .int) ∈ xt_T := xt_in (List.mem_of_getElem? (i := 780) (by decide +kernel)) (by decide +kernel)
theorem wi_SY_indicated : Cond.instanceMethod yy_SY_indicated ∈ xt_T := xt_in (List.mem_of_getElem? (i := 779) (by decide +kernel)) (by decide +kernel)
theorem wx_SY_indicated : Cond.selects "StackedRows$Symbol" yy_SY_indicated yy_SY_indicated ∈ xt_T := xt_in (List.mem_of_getElem? (i := 15) (by decide +kernel)) (by decide +kernel)
theorem wc_SY_isThere : Cond.code yy_SY_isThere cd_SY_isThere 1 (some .boolean) ∈ xt_T := xt_in (List.mem_of_getElem? (i := 810) (by decide +kernel)) (by decide +kernel)
theorem wi_SY_isThere : Cond.instanceMethod yy_SY_isThere ∈ xt_T := xt_in (List.mem_of_getElem? (i := 808) (by decide +kernel)) (by decide +kernel)
theorem wx_SY_isThere : Cond.selects "StackedRows$Symbol" yy_SY_isThere yy_SY_isThere ∈ xt_T := xt_in (List.mem_of_getElem? (i := 809) (by decide +kernel)) (by decide +kernel)
theorem wc_SY_leftKind : Cond.code yy_SY_leftKind cd_SY_leftKind 1 (some .int) ∈ xt_T := xt_in (List.mem_of_getElem? (i := 776) (by decide +kernel)) (by decide +kernel)
theorem wz_SY_leftKind : Cond.static yy_SY_leftKind ∈ xt_T := xt_in (List.mem_of_getElem? (i := 775) (by decide +kernel)) (by decide +kernel)
theorem wc_SY_rightKind : Cond.code yy_SY_rightKind cd_SY_rightKind 1 (some .int) ∈ xt_T := xt_in (List.mem_of_getElem? (i := 791) (by decide +kernel)) (by decide +kernel)
theorem wz_SY_rightKind : Cond.static yy_SY_rightKind ∈ xt_T := xt_in (List.mem_of_getElem? (i := 790) (by decide +kernel)) (by decide +kernel)
theorem wc_SY_rows : Cond.code yy_SY_rows cd_SY_rows 1 (some .int) ∈ xt_T := xt_in (List.mem_of_getElem? (i := 858) (by decide +kernel)) (by decide +kernel)
theorem wi_SY_rows : Cond.instanceMethod yy_SY_rows ∈ xt_T := xt_in (List.mem_of_getElem? (i := 856) (by decide +kernel)) (by decide +kernel)
theorem wx_SY_rows : Cond.selects "StackedRows$Symbol" yy_SY_rows yy_SY_rows ∈ xt_T := xt_in (List.mem_of_getElem? (i := 857) (by decide +kernel)) (by decide +kernel)
theorem wc_SY_set : Cond.code yy_SY_set cd_SY_set 4 none ∈ xt_T := xt_in (List.mem_of_getElem? (i := 784) (by decide +kernel)) (by decide +kernel)
theorem wi_SY_set : Cond.instanceMethod yy_SY_set ∈ xt_T := xt_in (List.mem_of_getElem? (i := 782) (by decide +kernel)) (by decide +kernel)
theorem wx_SY_set : Cond.selects "StackedRows$Symbol" yy_SY_set yy_SY_set ∈ xt_T := xt_in (List.mem_of_getElem? (i := 783) (by decide +kernel)) (by decide +kernel)
theorem wc_TP_init : Cond.code yy_TP_init cd_TP_init 1 none ∈ xt_T := xt_in (List.mem_of_getElem? (i := 112) (by decide +kernel)) (by decide +kernel)
theorem wn_TP : Cond.initialized "StackedRows$Tape" ∈ xt_T := xt_in (List.mem_of_getElem? (i := 72) (by decide +kernel)) (by decide +kernel)
theorem wi_TP_init : Cond.instanceMethod yy_TP_init ∈ xt_T := xt_in (List.mem_of_getElem? (i := 111) (by decide +kernel)) (by decide +kernel)
theorem wc_TP_add : Cond.code yy_TP_add cd_TP_add 2 none ∈ xt_T := xt_in (List.mem_of_getElem? (i := 662) (by decide +kernel)) (by decide +kernel)
theorem wi_TP_add : Cond.instanceMethod yy_TP_add ∈ xt_T := xt_in (List.mem_of_getElem? (i := 660) (by decide +kernel)) (by decide +kernel)
theorem wx_TP_add : Cond.selects "StackedRows$Tape" yy_TP_add yy_TP_add ∈ xt_T := xt_in (List.mem_of_getElem? (i := 661) (by decide +kernel)) (by decide +kernel)
theorem wc_TP_addFour : Cond.code yy_TP_addFour cd_TP_addFour 3 none ∈ xt_T := xt_in (List.mem_of_getElem? (i := 658) (by decide +kernel)) (by decide +kernel)
theorem wi_TP_addFour : Cond.instanceMethod yy_TP_addFour ∈ xt_T := xt_in (List.mem_of_getElem? (i := 656) (by decide +kernel)) (by decide +kernel)
theorem wx_TP_addFour : Cond.selects "StackedRows$Tape" yy_TP_addFour yy_TP_addFour ∈ xt_T := xt_in (List.mem_of_getElem? (i := 657) (by decide +kernel)) (by decide +kernel)
theorem wc_TP_cut : Cond.code yy_TP_cut cd_TP_cut 2 none ∈ xt_T := xt_in (List.mem_of_getElem? (i := 693) (by decide +kernel)) (by decide +kernel)
theorem wi_TP_cut : Cond.instanceMethod yy_TP_cut ∈ xt_T := xt_in (List.mem_of_getElem? (i := 691) (by decide +kernel)) (by decide +kernel)
theorem wx_TP_cut : Cond.selects "StackedRows$Tape" yy_TP_cut yy_TP_cut ∈ xt_T := xt_in (List.mem_of_getElem? (i := 692) (by decide +kernel)) (by decide +kernel)
theorem wc_TP_size : Cond.code yy_TP_size cd_TP_size 1 (some .int) ∈ xt_T := xt_in (List.mem_of_getElem? (i := 363) (by decide +kernel)) (by decide +kernel)
theorem wi_TP_size : Cond.instanceMethod yy_TP_size ∈ xt_T := xt_in (List.mem_of_getElem? (i := 361) (by decide +kernel)) (by decide +kernel)
theorem wx_TP_size : Cond.selects "StackedRows$Tape" yy_TP_size yy_TP_size ∈ xt_T := xt_in (List.mem_of_getElem? (i := 362) (by decide +kernel)) (by decide +kernel)
theorem wc_TW_init : Cond.code yy_TW_init cd_TW_init 2 none ∈ xt_T := xt_in (List.mem_of_getElem? (i := 145) (by decide +kernel)) (by decide +kernel)
theorem wn_TW : Cond.initialized "StackedRows$TextWriter" ∈ xt_T := xt_in (List.mem_of_getElem? (i := 75) (by decide +kernel)) (by decide +kernel)
theorem wi_TW_init : Cond.instanceMethod yy_TW_init ∈ xt_T := xt_in (List.mem_of_getElem? (i := 144) (by decide +kernel)) (by decide +kernel)
theorem wc_TW_beginWithCapitals : Cond.code yy_TW_beginWithCapitals cd_TW_beginWithCapitals 1 none ∈ xt_T := xt_in (List.mem_of_getElem? (i := 383) (by decide +kernel)) (by decide +kernel)
theorem wi_TW_beginWithCapitals : Cond.instanceMethod yy_TW_beginWithCapitals ∈ xt_T := xt_in (List.mem_of_getElem? (i := 381) (by decide +kernel)) (by decide +kernel)
theorem wx_TW_beginWithCapitals : Cond.selects "StackedRows$TextWriter" yy_TW_beginWithCapitals yy_TW_beginWithCapitals ∈ xt_T := xt_in (List.mem_of_getElem? (i := 382) (by decide +kernel)) (by decide +kernel)
theorem wc_WR_init : Cond.code yy_WR_init cd_WR_init 2 none ∈ xt_T := xt_in (List.mem_of_getElem? (i := 126) (by decide +kernel)) (by decide +kernel)
theorem wn_WR : Cond.initialized "StackedRows$Writer" ∈ xt_T := xt_in (List.mem_of_getElem? (i := 73) (by decide +kernel)) (by decide +kernel)
theorem wi_WR_init : Cond.instanceMethod yy_WR_init ∈ xt_T := xt_in (List.mem_of_getElem? (i := 125) (by decide +kernel)) (by decide +kernel)
theorem wc_WR_forget : Cond.code yy_WR_forget cd_WR_forget 1 none ∈ xt_T := xt_in (List.mem_of_getElem? (i := 666) (by decide +kernel)) (by decide +kernel)
theorem wi_WR_forget : Cond.instanceMethod yy_WR_forget ∈ xt_T := xt_in (List.mem_of_getElem? (i := 664) (by decide +kernel)) (by decide +kernel)
theorem wx_WR_forget : Cond.selects "StackedRows$Writer" yy_WR_forget yy_WR_forget ∈ xt_T := xt_in (List.mem_of_getElem? (i := 665) (by decide +kernel)) (by decide +kernel)
theorem wc_WR_measure : Cond.code yy_WR_measure cd_WR_measure 3 none ∈ xt_T := xt_in (List.mem_of_getElem? (i := 367) (by decide +kernel)) (by decide +kernel)
theorem wi_WR_measure : Cond.instanceMethod yy_WR_measure ∈ xt_T := xt_in (List.mem_of_getElem? (i := 366) (by decide +kernel)) (by decide +kernel)
theorem wx_WR_measure : Cond.selects "StackedRows$Writer" yy_WR_measure yy_WR_measure ∈ xt_T := xt_in (List.mem_of_getElem? (i := 0) (by decide +kernel)) (by decide +kernel)
theorem wc_WR_size : Cond.code yy_WR_size cd_WR_size 1 (some .int) ∈ xt_T := xt_in (List.mem_of_getElem? (i := 577) (by decide +kernel)) (by decide +kernel)
theorem wi_WR_size : Cond.instanceMethod yy_WR_size ∈ xt_T := xt_in (List.mem_of_getElem? (i := 575) (by decide +kernel)) (by decide +kernel)
theorem wx_WR_size : Cond.selects "StackedRows$Writer" yy_WR_size yy_WR_size ∈ xt_T := xt_in (List.mem_of_getElem? (i := 576) (by decide +kernel)) (by decide +kernel)
theorem wc_WR_write : Cond.code yy_WR_write cd_WR_write 3 none ∈ xt_T := xt_in (List.mem_of_getElem? (i := 359) (by decide +kernel)) (by decide +kernel)
theorem wi_WR_write : Cond.instanceMethod yy_WR_write ∈ xt_T := xt_in (List.mem_of_getElem? (i := 357) (by decide +kernel)) (by decide +kernel)
theorem wx_WR_write : Cond.selects "StackedRows$Writer" yy_WR_write yy_WR_write ∈ xt_T := xt_in (List.mem_of_getElem? (i := 358) (by decide +kernel)) (by decide +kernel)
theorem wc_SR_init : Cond.code yy_SR_init cd_SR_init 1 none ∈ xt_T := xt_in (List.mem_of_getElem? (i := 104) (by decide +kernel)) (by decide +kernel)
theorem wn_SR : Cond.initialized "StackedRows" ∈ xt_T := xt_in (List.mem_of_getElem? (i := 71) (by decide +kernel)) (by decide +kernel)
theorem wi_SR_init : Cond.instanceMethod yy_SR_init ∈ xt_T := xt_in (List.mem_of_getElem? (i := 103) (by decide +kernel)) (by decide +kernel)
theorem wc_SR_blank : Cond.code yy_SR_blank cd_SR_blank 3 none ∈ xt_T := xt_in (List.mem_of_getElem? (i := 798) (by decide +kernel)) (by decide +kernel)
theorem wi_SR_blank : Cond.instanceMethod yy_SR_blank ∈ xt_T := xt_in (List.mem_of_getElem? (i := 796) (by decide +kernel)) (by decide +kernel)
theorem wx_SR_blank : Cond.selects "StackedRows" yy_SR_blank yy_SR_blank ∈ xt_T := xt_in (List.mem_of_getElem? (i := 797) (by decide +kernel)) (by decide +kernel)
theorem wc_SR_byteAt : Cond.code yy_SR_byteAt cd_SR_byteAt 2 (some .int) ∈ xt_T := xt_in (List.mem_of_getElem? (i := 701) (by decide +kernel)) (by decide +kernel)
theorem wi_SR_byteAt : Cond.instanceMethod yy_SR_byteAt ∈ xt_T := xt_in (List.mem_of_getElem? (i := 699) (by decide +kernel)) (by decide +kernel)
theorem wx_SR_byteAt : Cond.selects "StackedRows" yy_SR_byteAt yy_SR_byteAt ∈ xt_T := xt_in (List.mem_of_getElem? (i := 700) (by decide +kernel)) (by decide +kernel)
theorem wc_SR_checksOf : Cond.code yy_SR_checksOf cd_SR_checksOf 1 (some .int) ∈ xt_T := xt_in (List.mem_of_getElem? (i := 742) (by decide +kernel)) (by decide +kernel)
theorem wz_SR_checksOf : Cond.static yy_SR_checksOf ∈ xt_T := xt_in (List.mem_of_getElem? (i := 741) (by decide +kernel)) (by decide +kernel)
theorem wc_SR_codeword : Cond.code yy_SR_codeword cd_SR_codeword 2 (some .int) ∈ xt_T := xt_in (List.mem_of_getElem? (i := 724) (by decide +kernel)) (by decide +kernel)
theorem wi_SR_codeword : Cond.instanceMethod yy_SR_codeword ∈ xt_T := xt_in (List.mem_of_getElem? (i := 722) (by decide +kernel)) (by decide +kernel)
theorem wx_SR_codeword : Cond.selects "StackedRows" yy_SR_codeword yy_SR_codeword ∈ xt_T := xt_in (List.mem_of_getElem? (i := 723) (by decide +kernel)) (by decide +kernel)
theorem wc_SR_codewords : Cond.code yy_SR_codewords cd_SR_codewords 1 (some .int) ∈ xt_T := xt_in (List.mem_of_getElem? (i := 355) (by decide +kernel)) (by decide +kernel)
theorem wi_SR_codewords : Cond.instanceMethod yy_SR_codewords ∈ xt_T := xt_in (List.mem_of_getElem? (i := 353) (by decide +kernel)) (by decide +kernel)
theorem wx_SR_codewords : Cond.selects "StackedRows" yy_SR_codewords yy_SR_codewords ∈ xt_T := xt_in (List.mem_of_getElem? (i := 354) (by decide +kernel)) (by decide +kernel)
theorem wc_SR_count : Cond.code yy_SR_count cd_SR_count 2 (some .int) ∈ xt_T := xt_in (List.mem_of_getElem? (i := 1056) (by decide +kernel)) (by decide +kernel)
theorem wi_SR_count : Cond.instanceMethod yy_SR_count ∈ xt_T := xt_in (List.mem_of_getElem? (i := 1054) (by decide +kernel)) (by decide +kernel)
theorem wx_SR_count : Cond.selects "StackedRows" yy_SR_count yy_SR_count ∈ xt_T := xt_in (List.mem_of_getElem? (i := 1055) (by decide +kernel)) (by decide +kernel)
theorem wc_SR_end : Cond.code yy_SR_end cd_SR_end 2 none ∈ xt_T := xt_in (List.mem_of_getElem? (i := 674) (by decide +kernel)) (by decide +kernel)
theorem wi_SR_end : Cond.instanceMethod yy_SR_end ∈ xt_T := xt_in (List.mem_of_getElem? (i := 672) (by decide +kernel)) (by decide +kernel)
theorem wx_SR_end : Cond.selects "StackedRows" yy_SR_end yy_SR_end ∈ xt_T := xt_in (List.mem_of_getElem? (i := 673) (by decide +kernel)) (by decide +kernel)
theorem wc_SR_feed : Cond.code yy_SR_feed cd_SR_feed 6 (some .int) ∈ xt_T := xt_in (List.mem_of_getElem? (i := 589) (by decide +kernel)) (by decide +kernel)
theorem wi_SR_feed : Cond.instanceMethod yy_SR_feed ∈ xt_T := xt_in (List.mem_of_getElem? (i := 587) (by decide +kernel)) (by decide +kernel)
theorem wx_SR_feed : Cond.selects "StackedRows" yy_SR_feed yy_SR_feed ∈ xt_T := xt_in (List.mem_of_getElem? (i := 588) (by decide +kernel)) (by decide +kernel)
theorem wc_SR_fillRow : Cond.code yy_SR_fillRow cd_SR_fillRow 3 none ∈ xt_T := xt_in (List.mem_of_getElem? (i := 749) (by decide +kernel)) (by decide +kernel)
theorem wi_SR_fillRow : Cond.instanceMethod yy_SR_fillRow ∈ xt_T := xt_in (List.mem_of_getElem? (i := 748) (by decide +kernel)) (by decide +kernel)
theorem wx_SR_fillRow : Cond.selects "StackedRows" yy_SR_fillRow yy_SR_fillRow ∈ xt_T := xt_in (List.mem_of_getElem? (i := 12) (by decide +kernel)) (by decide +kernel)
theorem wc_SR_make : Cond.code yy_SR_make cd_SR_make 6 (some .int) ∈ xt_T := xt_in (List.mem_of_getElem? (i := 739) (by decide +kernel)) (by decide +kernel)
theorem wi_SR_make : Cond.instanceMethod yy_SR_make ∈ xt_T := xt_in (List.mem_of_getElem? (i := 737) (by decide +kernel)) (by decide +kernel)
theorem wx_SR_make : Cond.selects "StackedRows" yy_SR_make yy_SR_make ∈ xt_T := xt_in (List.mem_of_getElem? (i := 738) (by decide +kernel)) (by decide +kernel)
theorem wc_SR_negative : Cond.code yy_SR_negative cd_SR_negative 1 (some .int) ∈ xt_T := xt_in (List.mem_of_getElem? (i := 760) (by decide +kernel)) (by decide +kernel)
theorem wz_SR_negative : Cond.static yy_SR_negative ∈ xt_T := xt_in (List.mem_of_getElem? (i := 759) (by decide +kernel)) (by decide +kernel)
theorem wc_SR_place : Cond.code yy_SR_place cd_SR_place 3 (some .int) ∈ xt_T := xt_in (List.mem_of_getElem? (i := 806) (by decide +kernel)) (by decide +kernel)
theorem wi_SR_place : Cond.instanceMethod yy_SR_place ∈ xt_T := xt_in (List.mem_of_getElem? (i := 804) (by decide +kernel)) (by decide +kernel)
theorem wx_SR_place : Cond.selects "StackedRows" yy_SR_place yy_SR_place ∈ xt_T := xt_in (List.mem_of_getElem? (i := 805) (by decide +kernel)) (by decide +kernel)
theorem wc_SR_put : Cond.code yy_SR_put cd_SR_put 4 none ∈ xt_T := xt_in (List.mem_of_getElem? (i := 837) (by decide +kernel)) (by decide +kernel)
theorem wi_SR_put : Cond.instanceMethod yy_SR_put ∈ xt_T := xt_in (List.mem_of_getElem? (i := 835) (by decide +kernel)) (by decide +kernel)
theorem wx_SR_put : Cond.selects "StackedRows" yy_SR_put yy_SR_put ∈ xt_T := xt_in (List.mem_of_getElem? (i := 836) (by decide +kernel)) (by decide +kernel)
theorem wc_SR_rowsFor : Cond.code yy_SR_rowsFor cd_SR_rowsFor 3 (some .int) ∈ xt_T := xt_in (List.mem_of_getElem? (i := 745) (by decide +kernel)) (by decide +kernel)
theorem wz_SR_rowsFor : Cond.static yy_SR_rowsFor ∈ xt_T := xt_in (List.mem_of_getElem? (i := 744) (by decide +kernel)) (by decide +kernel)
theorem wc_SR_solve : Cond.code yy_SR_solve cd_SR_solve 2 (some .int) ∈ xt_T := xt_in (List.mem_of_getElem? (i := 845) (by decide +kernel)) (by decide +kernel)
theorem wi_SR_solve : Cond.instanceMethod yy_SR_solve ∈ xt_T := xt_in (List.mem_of_getElem? (i := 843) (by decide +kernel)) (by decide +kernel)
theorem wx_SR_solve : Cond.selects "StackedRows" yy_SR_solve yy_SR_solve ∈ xt_T := xt_in (List.mem_of_getElem? (i := 844) (by decide +kernel)) (by decide +kernel)
theorem wc_SR_solved : Cond.code yy_SR_solved cd_SR_solved 2 (some .int) ∈ xt_T := xt_in (List.mem_of_getElem? (i := 1049) (by decide +kernel)) (by decide +kernel)
theorem wi_SR_solved : Cond.instanceMethod yy_SR_solved ∈ xt_T := xt_in (List.mem_of_getElem? (i := 1047) (by decide +kernel)) (by decide +kernel)
theorem wx_SR_solved : Cond.selects "StackedRows" yy_SR_solved yy_SR_solved ∈ xt_T := xt_in (List.mem_of_getElem? (i := 1048) (by decide +kernel)) (by decide +kernel)
theorem wc_LW_blank : Cond.codeWith yy_LW_blank cd_LW_blank 4 (some .int) [(0, 6, 9, 19)] ∈ xt_T := xt_in (List.mem_of_getElem? (i := 794) (by decide +kernel)) (by decide +kernel)
theorem wn_LW : Cond.initialized "StackedRowsLaw" ∈ xt_T := xt_in (List.mem_of_getElem? (i := 70) (by decide +kernel)) (by decide +kernel)
theorem wz_LW_blank : Cond.static yy_LW_blank ∈ xt_T := xt_in (List.mem_of_getElem? (i := 793) (by decide +kernel)) (by decide +kernel)
theorem wc_LW_byteAt : Cond.codeWith yy_LW_byteAt cd_LW_byteAt 4 (some .int) [(0, 9, 12, 25)] ∈ xt_T := xt_in (List.mem_of_getElem? (i := 696) (by decide +kernel)) (by decide +kernel)
theorem wz_LW_byteAt : Cond.static yy_LW_byteAt ∈ xt_T := xt_in (List.mem_of_getElem? (i := 695) (by decide +kernel)) (by decide +kernel)
theorem wc_LW_codeword : Cond.codeWith yy_LW_codeword cd_LW_codeword 4 (some .int) [(0, 9, 12, 25)] ∈ xt_T := xt_in (List.mem_of_getElem? (i := 720) (by decide +kernel)) (by decide +kernel)
theorem wz_LW_codeword : Cond.static yy_LW_codeword ∈ xt_T := xt_in (List.mem_of_getElem? (i := 719) (by decide +kernel)) (by decide +kernel)
theorem wc_LW_count : Cond.codeWith yy_LW_count cd_LW_count 4 (some .int) [(0, 9, 12, 19)] ∈ xt_T := xt_in (List.mem_of_getElem? (i := 1052) (by decide +kernel)) (by decide +kernel)
theorem wz_LW_count : Cond.static yy_LW_count ∈ xt_T := xt_in (List.mem_of_getElem? (i := 1051) (by decide +kernel)) (by decide +kernel)
theorem wc_LW_end : Cond.codeWith yy_LW_end cd_LW_end 3 (some .int) [(0, 5, 8, 19)] ∈ xt_T := xt_in (List.mem_of_getElem? (i := 669) (by decide +kernel)) (by decide +kernel)
theorem wz_LW_end : Cond.static yy_LW_end ∈ xt_T := xt_in (List.mem_of_getElem? (i := 668) (by decide +kernel)) (by decide +kernel)
theorem wc_LW_feed : Cond.codeWith yy_LW_feed cd_LW_feed 8 (some .int) [(0, 16, 19, 13)] ∈ xt_T := xt_in (List.mem_of_getElem? (i := 584) (by decide +kernel)) (by decide +kernel)
theorem wz_LW_feed : Cond.static yy_LW_feed ∈ xt_T := xt_in (List.mem_of_getElem? (i := 583) (by decide +kernel)) (by decide +kernel)
theorem wc_LW_make : Cond.codeWith yy_LW_make cd_LW_make 5 (some .int) [(0, 10, 13, 19), (0, 10, 17, 13)] ∈ xt_T := xt_in (List.mem_of_getElem? (i := 735) (by decide +kernel)) (by decide +kernel)
theorem wz_LW_make : Cond.static yy_LW_make ∈ xt_T := xt_in (List.mem_of_getElem? (i := 734) (by decide +kernel)) (by decide +kernel)
theorem wc_LW_place : Cond.codeWith yy_LW_place cd_LW_place 5 (some .int) [(0, 10, 13, 41), (0, 10, 17, 25)] ∈ xt_T := xt_in (List.mem_of_getElem? (i := 801) (by decide +kernel)) (by decide +kernel)
theorem wz_LW_place : Cond.static yy_LW_place ∈ xt_T := xt_in (List.mem_of_getElem? (i := 800) (by decide +kernel)) (by decide +kernel)
theorem wc_LW_put : Cond.codeWith yy_LW_put cd_LW_put 5 (some .int) [(0, 7, 10, 41), (0, 7, 14, 25), (0, 7, 18, 19)] ∈ xt_T := xt_in (List.mem_of_getElem? (i := 833) (by decide +kernel)) (by decide +kernel)
theorem wz_LW_put : Cond.static yy_LW_put ∈ xt_T := xt_in (List.mem_of_getElem? (i := 832) (by decide +kernel)) (by decide +kernel)
theorem wc_LW_solve : Cond.codeWith yy_LW_solve cd_LW_solve 3 (some .int) [(0, 8, 11, 41), (0, 8, 14, 13)] ∈ xt_T := xt_in (List.mem_of_getElem? (i := 841) (by decide +kernel)) (by decide +kernel)
theorem wz_LW_solve : Cond.static yy_LW_solve ∈ xt_T := xt_in (List.mem_of_getElem? (i := 840) (by decide +kernel)) (by decide +kernel)
theorem wc_LW_solved : Cond.codeWith yy_LW_solved cd_LW_solved 4 (some .int) [(0, 9, 12, 25)] ∈ xt_T := xt_in (List.mem_of_getElem? (i := 1045) (by decide +kernel)) (by decide +kernel)
theorem wz_LW_solved : Cond.static yy_LW_solved ∈ xt_T := xt_in (List.mem_of_getElem? (i := 1044) (by decide +kernel)) (by decide +kernel)
theorem wc_MO_init : Cond.code yy_MO_init cd_MO_init 3 none ∈ xt_T := xt_in (List.mem_of_getElem? (i := 1063) (by decide +kernel)) (by decide +kernel)
theorem wn_MO : Cond.initialized "StackedRowsModel" ∈ xt_T := xt_in (List.mem_of_getElem? (i := 85) (by decide +kernel)) (by decide +kernel)
theorem wi_MO_init : Cond.instanceMethod yy_MO_init ∈ xt_T := xt_in (List.mem_of_getElem? (i := 1062) (by decide +kernel)) (by decide +kernel)
theorem wc_MO_at : Cond.code yy_MO_at cd_MO_at 3 (some .int) ∈ xt_T := xt_in (List.mem_of_getElem? (i := 1243) (by decide +kernel)) (by decide +kernel)
theorem wi_MO_at : Cond.instanceMethod yy_MO_at ∈ xt_T := xt_in (List.mem_of_getElem? (i := 1242) (by decide +kernel)) (by decide +kernel)
theorem wx_MO_at : Cond.selects "StackedRowsModel" yy_MO_at yy_MO_at ∈ xt_T := xt_in (List.mem_of_getElem? (i := 53) (by decide +kernel)) (by decide +kernel)
theorem wc_MO_blank : Cond.code yy_MO_blank cd_MO_blank 4 none ∈ xt_T := xt_in (List.mem_of_getElem? (i := 1251) (by decide +kernel)) (by decide +kernel)
theorem wi_MO_blank : Cond.instanceMethod yy_MO_blank ∈ xt_T := xt_in (List.mem_of_getElem? (i := 1249) (by decide +kernel)) (by decide +kernel)
theorem wx_MO_blank : Cond.selects "StackedRowsModel" yy_MO_blank yy_MO_blank ∈ xt_T := xt_in (List.mem_of_getElem? (i := 1250) (by decide +kernel)) (by decide +kernel)
theorem wc_MO_byteAt : Cond.code yy_MO_byteAt cd_MO_byteAt 2 (some .int) ∈ xt_T := xt_in (List.mem_of_getElem? (i := 1358) (by decide +kernel)) (by decide +kernel)
theorem wi_MO_byteAt : Cond.instanceMethod yy_MO_byteAt ∈ xt_T := xt_in (List.mem_of_getElem? (i := 1356) (by decide +kernel)) (by decide +kernel)
theorem wx_MO_byteAt : Cond.selects "StackedRowsModel" yy_MO_byteAt yy_MO_byteAt ∈ xt_T := xt_in (List.mem_of_getElem? (i := 1357) (by decide +kernel)) (by decide +kernel)
theorem wc_MO_codeword : Cond.code yy_MO_codeword cd_MO_codeword 2 (some .int) ∈ xt_T := xt_in (List.mem_of_getElem? (i := 1227) (by decide +kernel)) (by decide +kernel)
theorem wi_MO_codeword : Cond.instanceMethod yy_MO_codeword ∈ xt_T := xt_in (List.mem_of_getElem? (i := 1225) (by decide +kernel)) (by decide +kernel)
theorem wx_MO_codeword : Cond.selects "StackedRowsModel" yy_MO_codeword yy_MO_codeword ∈ xt_T := xt_in (List.mem_of_getElem? (i := 1226) (by decide +kernel)) (by decide +kernel)
theorem wc_MO_codewords : Cond.code yy_MO_codewords cd_MO_codewords 1 (some .int) ∈ xt_T := xt_in (List.mem_of_getElem? (i := 1170) (by decide +kernel)) (by decide +kernel)
theorem wi_MO_codewords : Cond.instanceMethod yy_MO_codewords ∈ xt_T := xt_in (List.mem_of_getElem? (i := 1168) (by decide +kernel)) (by decide +kernel)
theorem wx_MO_codewords : Cond.selects "StackedRowsModel" yy_MO_codewords yy_MO_codewords ∈ xt_T := xt_in (List.mem_of_getElem? (i := 1169) (by decide +kernel)) (by decide +kernel)
theorem wc_MO_count : Cond.code yy_MO_count cd_MO_count 2 (some .int) ∈ xt_T := xt_in (List.mem_of_getElem? (i := 1362) (by decide +kernel)) (by decide +kernel)
theorem wi_MO_count : Cond.instanceMethod yy_MO_count ∈ xt_T := xt_in (List.mem_of_getElem? (i := 1360) (by decide +kernel)) (by decide +kernel)
theorem wx_MO_count : Cond.selects "StackedRowsModel" yy_MO_count yy_MO_count ∈ xt_T := xt_in (List.mem_of_getElem? (i := 1361) (by decide +kernel)) (by decide +kernel)
theorem wc_MO_end : Cond.code yy_MO_end cd_MO_end 2 none ∈ xt_T := xt_in (List.mem_of_getElem? (i := 1354) (by decide +kernel)) (by decide +kernel)
theorem wi_MO_end : Cond.instanceMethod yy_MO_end ∈ xt_T := xt_in (List.mem_of_getElem? (i := 1352) (by decide +kernel)) (by decide +kernel)
theorem wx_MO_end : Cond.selects "StackedRowsModel" yy_MO_end yy_MO_end ∈ xt_T := xt_in (List.mem_of_getElem? (i := 1353) (by decide +kernel)) (by decide +kernel)
theorem wc_MO_feed : Cond.code yy_MO_feed cd_MO_feed 8 (some .int) ∈ xt_T := xt_in (List.mem_of_getElem? (i := 1350) (by decide +kernel)) (by decide +kernel)
theorem wi_MO_feed : Cond.instanceMethod yy_MO_feed ∈ xt_T := xt_in (List.mem_of_getElem? (i := 1348) (by decide +kernel)) (by decide +kernel)
theorem wx_MO_feed : Cond.selects "StackedRowsModel" yy_MO_feed yy_MO_feed ∈ xt_T := xt_in (List.mem_of_getElem? (i := 1349) (by decide +kernel)) (by decide +kernel)
theorem wc_MO_indicator : Cond.code yy_MO_indicator cd_MO_indicator 6 (some .int) ∈ xt_T := xt_in (List.mem_of_getElem? (i := 1247) (by decide +kernel)) (by decide +kernel)
theorem wi_MO_indicator : Cond.instanceMethod yy_MO_indicator ∈ xt_T := xt_in (List.mem_of_getElem? (i := 1246) (by decide +kernel)) (by decide +kernel)
theorem wx_MO_indicator : Cond.selects "StackedRowsModel" yy_MO_indicator yy_MO_indicator ∈ xt_T := xt_in (List.mem_of_getElem? (i := 54) (by decide +kernel)) (by decide +kernel)
theorem wc_MO_make : Cond.code yy_MO_make cd_MO_make 7 (some .int) ∈ xt_T := xt_in (List.mem_of_getElem? (i := 1231) (by decide +kernel)) (by decide +kernel)
theorem wi_MO_make : Cond.instanceMethod yy_MO_make ∈ xt_T := xt_in (List.mem_of_getElem? (i := 1229) (by decide +kernel)) (by decide +kernel)
theorem wx_MO_make : Cond.selects "StackedRowsModel" yy_MO_make yy_MO_make ∈ xt_T := xt_in (List.mem_of_getElem? (i := 1230) (by decide +kernel)) (by decide +kernel)
theorem wc_MO_makeChecks : Cond.code yy_MO_makeChecks cd_MO_makeChecks 6 none ∈ xt_T := xt_in (List.mem_of_getElem? (i := 1235) (by decide +kernel)) (by decide +kernel)
theorem wi_MO_makeChecks : Cond.instanceMethod yy_MO_makeChecks ∈ xt_T := xt_in (List.mem_of_getElem? (i := 1234) (by decide +kernel)) (by decide +kernel)
theorem wx_MO_makeChecks : Cond.selects "StackedRowsModel" yy_MO_makeChecks yy_MO_makeChecks ∈ xt_T := xt_in (List.mem_of_getElem? (i := 51) (by decide +kernel)) (by decide +kernel)
theorem wc_MO_place : Cond.code yy_MO_place cd_MO_place 3 (some .int) ∈ xt_T := xt_in (List.mem_of_getElem? (i := 1255) (by decide +kernel)) (by decide +kernel)
theorem wi_MO_place : Cond.instanceMethod yy_MO_place ∈ xt_T := xt_in (List.mem_of_getElem? (i := 1253) (by decide +kernel)) (by decide +kernel)
theorem wx_MO_place : Cond.selects "StackedRowsModel" yy_MO_place yy_MO_place ∈ xt_T := xt_in (List.mem_of_getElem? (i := 1254) (by decide +kernel)) (by decide +kernel)
theorem wc_MO_placeOf : Cond.code yy_MO_placeOf cd_MO_placeOf 2 (some .int) ∈ xt_T := xt_in (List.mem_of_getElem? (i := 1239) (by decide +kernel)) (by decide +kernel)
theorem wi_MO_placeOf : Cond.instanceMethod yy_MO_placeOf ∈ xt_T := xt_in (List.mem_of_getElem? (i := 1238) (by decide +kernel)) (by decide +kernel)
theorem wx_MO_placeOf : Cond.selects "StackedRowsModel" yy_MO_placeOf yy_MO_placeOf ∈ xt_T := xt_in (List.mem_of_getElem? (i := 52) (by decide +kernel)) (by decide +kernel)
theorem wc_MO_put : Cond.code yy_MO_put cd_MO_put 4 none ∈ xt_T := xt_in (List.mem_of_getElem? (i := 1263) (by decide +kernel)) (by decide +kernel)
theorem wi_MO_put : Cond.instanceMethod yy_MO_put ∈ xt_T := xt_in (List.mem_of_getElem? (i := 1261) (by decide +kernel)) (by decide +kernel)
theorem wx_MO_put : Cond.selects "StackedRowsModel" yy_MO_put yy_MO_put ∈ xt_T := xt_in (List.mem_of_getElem? (i := 1262) (by decide +kernel)) (by decide +kernel)
theorem wc_MO_solve : Cond.code yy_MO_solve cd_MO_solve 7 (some .int) ∈ xt_T := xt_in (List.mem_of_getElem? (i := 1267) (by decide +kernel)) (by decide +kernel)
theorem wi_MO_solve : Cond.instanceMethod yy_MO_solve ∈ xt_T := xt_in (List.mem_of_getElem? (i := 1265) (by decide +kernel)) (by decide +kernel)
theorem wx_MO_solve : Cond.selects "StackedRowsModel" yy_MO_solve yy_MO_solve ∈ xt_T := xt_in (List.mem_of_getElem? (i := 1266) (by decide +kernel)) (by decide +kernel)
theorem wc_MO_solved : Cond.code yy_MO_solved cd_MO_solved 2 (some .int) ∈ xt_T := xt_in (List.mem_of_getElem? (i := 1346) (by decide +kernel)) (by decide +kernel)
theorem wi_MO_solved : Cond.instanceMethod yy_MO_solved ∈ xt_T := xt_in (List.mem_of_getElem? (i := 1344) (by decide +kernel)) (by decide +kernel)
theorem wx_MO_solved : Cond.selects "StackedRowsModel" yy_MO_solved yy_MO_solved ∈ xt_T := xt_in (List.mem_of_getElem? (i := 1345) (by decide +kernel)) (by decide +kernel)
theorem wc_MO_thrown : Cond.code yy_MO_thrown cd_MO_thrown 1 (some .int) ∈ xt_T := xt_in (List.mem_of_getElem? (i := 1166) (by decide +kernel)) (by decide +kernel)
theorem wi_MO_thrown : Cond.instanceMethod yy_MO_thrown ∈ xt_T := xt_in (List.mem_of_getElem? (i := 1164) (by decide +kernel)) (by decide +kernel)
theorem wx_MO_thrown : Cond.selects "StackedRowsModel" yy_MO_thrown yy_MO_thrown ∈ xt_T := xt_in (List.mem_of_getElem? (i := 1165) (by decide +kernel)) (by decide +kernel)
theorem wc_MO_writeAll : Cond.code yy_MO_writeAll cd_MO_writeAll 6 none ∈ xt_T := xt_in (List.mem_of_getElem? (i := 1174) (by decide +kernel)) (by decide +kernel)
theorem wi_MO_writeAll : Cond.instanceMethod yy_MO_writeAll ∈ xt_T := xt_in (List.mem_of_getElem? (i := 1173) (by decide +kernel)) (by decide +kernel)
theorem wx_MO_writeAll : Cond.selects "StackedRowsModel" yy_MO_writeAll yy_MO_writeAll ∈ xt_T := xt_in (List.mem_of_getElem? (i := 40) (by decide +kernel)) (by decide +kernel)
theorem wc_AR_fill : Cond.code yy_AR_fill cd_AR_fill 4 none ∈ xt_T := xt_in (List.mem_of_getElem? (i := 413) (by decide +kernel)) (by decide +kernel)
theorem wn_AR : Cond.initialized "java/util/Arrays" ∈ xt_T := xt_in (List.mem_of_getElem? (i := 92) (by decide +kernel)) (by decide +kernel)
theorem wz_AR_fill : Cond.static yy_AR_fill ∈ xt_T := xt_in (List.mem_of_getElem? (i := 412) (by decide +kernel)) (by decide +kernel)
theorem ml_CK_15 : Cond.methodLink "StackedRows$Checks" 15 yy_CK_multiplyFactors ∈ xt_T := xt_in (List.mem_of_getElem? (i := 754) (by decide +kernel)) (by decide +kernel)
theorem ml_CK_19 : Cond.methodLink "StackedRows$Checks" 19 yy_CK_divide ∈ xt_T := xt_in (List.mem_of_getElem? (i := 761) (by decide +kernel)) (by decide +kernel)
theorem ml_RD_21 : Cond.methodLink "StackedRows$Reader" 21 yy_BN_init ∈ xt_T := xt_in (List.mem_of_getElem? (i := 275) (by decide +kernel)) (by decide +kernel)
theorem ml_SV_23 : Cond.methodLink "StackedRows$Solver" 23 yy_MD_init ∈ xt_T := xt_in (List.mem_of_getElem? (i := 234) (by decide +kernel)) (by decide +kernel)
theorem ml_SV_32 : Cond.methodLink "StackedRows$Solver" 32 yy_TP_init ∈ xt_T := xt_in (List.mem_of_getElem? (i := 267) (by decide +kernel)) (by decide +kernel)
theorem ml_SV_39 : Cond.methodLink "StackedRows$Solver" 39 yy_RD_init ∈ xt_T := xt_in (List.mem_of_getElem? (i := 270) (by decide +kernel)) (by decide +kernel)
theorem ml_SY_22 : Cond.methodLink "StackedRows$Symbol" 22 yy_AR_fill ∈ xt_T := xt_in (List.mem_of_getElem? (i := 769) (by decide +kernel)) (by decide +kernel)
theorem ml_SY_28 : Cond.methodLink "StackedRows$Symbol" 28 yy_SY_has ∈ xt_T := xt_in (List.mem_of_getElem? (i := 785) (by decide +kernel)) (by decide +kernel)
theorem ml_SY_32 : Cond.methodLink "StackedRows$Symbol" 32 yy_SY_leftKind ∈ xt_T := xt_in (List.mem_of_getElem? (i := 774) (by decide +kernel)) (by decide +kernel)
theorem ml_SY_36 : Cond.methodLink "StackedRows$Symbol" 36 yy_SY_indicated ∈ xt_T := xt_in (List.mem_of_getElem? (i := 777) (by decide +kernel)) (by decide +kernel)
theorem ml_SY_40 : Cond.methodLink "StackedRows$Symbol" 40 yy_SY_set ∈ xt_T := xt_in (List.mem_of_getElem? (i := 781) (by decide +kernel)) (by decide +kernel)
theorem ml_SY_44 : Cond.methodLink "StackedRows$Symbol" 44 yy_SY_rightKind ∈ xt_T := xt_in (List.mem_of_getElem? (i := 789) (by decide +kernel)) (by decide +kernel)
theorem ml_TP_19 : Cond.methodLink "StackedRows$Tape" 19 yy_TP_add ∈ xt_T := xt_in (List.mem_of_getElem? (i := 659) (by decide +kernel)) (by decide +kernel)
theorem ml_WR_17 : Cond.methodLink "StackedRows$Writer" 17 yy_CW_init ∈ xt_T := xt_in (List.mem_of_getElem? (i := 130) (by decide +kernel)) (by decide +kernel)
theorem ml_WR_24 : Cond.methodLink "StackedRows$Writer" 24 yy_TW_init ∈ xt_T := xt_in (List.mem_of_getElem? (i := 143) (by decide +kernel)) (by decide +kernel)
theorem ml_WR_33 : Cond.methodLink "StackedRows$Writer" 33 yy_BN_init ∈ xt_T := xt_in (List.mem_of_getElem? (i := 161) (by decide +kernel)) (by decide +kernel)
theorem ml_WR_55 : Cond.methodLink "StackedRows$Writer" 55 yy_CW_size ∈ xt_T := xt_in (List.mem_of_getElem? (i := 578) (by decide +kernel)) (by decide +kernel)
theorem ml_WR_63 : Cond.methodLink "StackedRows$Writer" 63 yy_TP_size ∈ xt_T := xt_in (List.mem_of_getElem? (i := 360) (by decide +kernel)) (by decide +kernel)
theorem ml_WR_66 : Cond.methodLink "StackedRows$Writer" 66 yy_WR_measure ∈ xt_T := xt_in (List.mem_of_getElem? (i := 364) (by decide +kernel)) (by decide +kernel)
theorem ml_WR_70 : Cond.methodLink "StackedRows$Writer" 70 yy_TW_beginWithCapitals ∈ xt_T := xt_in (List.mem_of_getElem? (i := 380) (by decide +kernel)) (by decide +kernel)
theorem ml_WR_73 : Cond.methodLink "StackedRows$Writer" 73 yy_CW_clear ∈ xt_T := xt_in (List.mem_of_getElem? (i := 384) (by decide +kernel)) (by decide +kernel)
theorem ml_SR_100 : Cond.methodLink "StackedRows" 100 yy_SY_begin ∈ xt_T := xt_in (List.mem_of_getElem? (i := 765) (by decide +kernel)) (by decide +kernel)
theorem ml_SR_104 : Cond.methodLink "StackedRows" 104 yy_SY_fill ∈ xt_T := xt_in (List.mem_of_getElem? (i := 770) (by decide +kernel)) (by decide +kernel)
theorem ml_SR_108 : Cond.methodLink "StackedRows" 108 yy_SY_isThere ∈ xt_T := xt_in (List.mem_of_getElem? (i := 807) (by decide +kernel)) (by decide +kernel)
theorem ml_SR_11 : Cond.methodLink "StackedRows" 11 yy_TP_init ∈ xt_T := xt_in (List.mem_of_getElem? (i := 110) (by decide +kernel)) (by decide +kernel)
theorem ml_SR_145 : Cond.methodLink "StackedRows" 145 yy_SY_rows ∈ xt_T := xt_in (List.mem_of_getElem? (i := 1057) (by decide +kernel)) (by decide +kernel)
theorem ml_SR_148 : Cond.methodLink "StackedRows" 148 yy_SY_columns ∈ xt_T := xt_in (List.mem_of_getElem? (i := 1058) (by decide +kernel)) (by decide +kernel)
theorem ml_SR_18 : Cond.methodLink "StackedRows" 18 yy_WR_init ∈ xt_T := xt_in (List.mem_of_getElem? (i := 124) (by decide +kernel)) (by decide +kernel)
theorem ml_SR_27 : Cond.methodLink "StackedRows" 27 yy_CK_init ∈ xt_T := xt_in (List.mem_of_getElem? (i := 202) (by decide +kernel)) (by decide +kernel)
theorem ml_SR_34 : Cond.methodLink "StackedRows" 34 yy_SY_init ∈ xt_T := xt_in (List.mem_of_getElem? (i := 212) (by decide +kernel)) (by decide +kernel)
theorem ml_SR_45 : Cond.methodLink "StackedRows" 45 yy_SV_init ∈ xt_T := xt_in (List.mem_of_getElem? (i := 228) (by decide +kernel)) (by decide +kernel)
theorem ml_SR_55 : Cond.methodLink "StackedRows" 55 yy_TP_size ∈ xt_T := xt_in (List.mem_of_getElem? (i := 590) (by decide +kernel)) (by decide +kernel)
theorem ml_SR_62 : Cond.methodLink "StackedRows" 62 yy_TP_addFour ∈ xt_T := xt_in (List.mem_of_getElem? (i := 655) (by decide +kernel)) (by decide +kernel)
theorem ml_SR_66 : Cond.methodLink "StackedRows" 66 yy_WR_forget ∈ xt_T := xt_in (List.mem_of_getElem? (i := 663) (by decide +kernel)) (by decide +kernel)
theorem ml_SR_72 : Cond.methodLink "StackedRows" 72 yy_TP_cut ∈ xt_T := xt_in (List.mem_of_getElem? (i := 690) (by decide +kernel)) (by decide +kernel)
theorem ml_SR_82 : Cond.methodLink "StackedRows" 82 yy_WR_write ∈ xt_T := xt_in (List.mem_of_getElem? (i := 356) (by decide +kernel)) (by decide +kernel)
theorem ml_SR_85 : Cond.methodLink "StackedRows" 85 yy_WR_size ∈ xt_T := xt_in (List.mem_of_getElem? (i := 574) (by decide +kernel)) (by decide +kernel)
theorem ml_SR_87 : Cond.methodLink "StackedRows" 87 yy_SR_checksOf ∈ xt_T := xt_in (List.mem_of_getElem? (i := 740) (by decide +kernel)) (by decide +kernel)
theorem ml_SR_90 : Cond.methodLink "StackedRows" 90 yy_SR_rowsFor ∈ xt_T := xt_in (List.mem_of_getElem? (i := 743) (by decide +kernel)) (by decide +kernel)
theorem ml_SR_94 : Cond.methodLink "StackedRows" 94 yy_SR_fillRow ∈ xt_T := xt_in (List.mem_of_getElem? (i := 746) (by decide +kernel)) (by decide +kernel)
theorem ml_SR_97 : Cond.methodLink "StackedRows" 97 yy_CK_write ∈ xt_T := xt_in (List.mem_of_getElem? (i := 750) (by decide +kernel)) (by decide +kernel)
theorem ml_LW_100 : Cond.methodLink "StackedRowsLaw" 100 yy_LW_solve ∈ xt_T := xt_in (List.mem_of_getElem? (i := 839) (by decide +kernel)) (by decide +kernel)
theorem ml_LW_103 : Cond.methodLink "StackedRowsLaw" 103 yy_MO_solve ∈ xt_T := xt_in (List.mem_of_getElem? (i := 1264) (by decide +kernel)) (by decide +kernel)
theorem ml_LW_104 : Cond.methodLink "StackedRowsLaw" 104 yy_LW_solved ∈ xt_T := xt_in (List.mem_of_getElem? (i := 1043) (by decide +kernel)) (by decide +kernel)
theorem ml_LW_106 : Cond.methodLink "StackedRowsLaw" 106 yy_MO_solved ∈ xt_T := xt_in (List.mem_of_getElem? (i := 1343) (by decide +kernel)) (by decide +kernel)
theorem ml_LW_107 : Cond.methodLink "StackedRowsLaw" 107 yy_LW_count ∈ xt_T := xt_in (List.mem_of_getElem? (i := 1050) (by decide +kernel)) (by decide +kernel)
theorem ml_LW_109 : Cond.methodLink "StackedRowsLaw" 109 yy_MO_count ∈ xt_T := xt_in (List.mem_of_getElem? (i := 1359) (by decide +kernel)) (by decide +kernel)
theorem ml_LW_15 : Cond.methodLink "StackedRowsLaw" 15 yy_SR_end ∈ xt_T := xt_in (List.mem_of_getElem? (i := 671) (by decide +kernel)) (by decide +kernel)
theorem ml_LW_21 : Cond.methodLink "StackedRowsLaw" 21 yy_SR_byteAt ∈ xt_T := xt_in (List.mem_of_getElem? (i := 698) (by decide +kernel)) (by decide +kernel)
theorem ml_LW_27 : Cond.methodLink "StackedRowsLaw" 27 yy_SR_codeword ∈ xt_T := xt_in (List.mem_of_getElem? (i := 721) (by decide +kernel)) (by decide +kernel)
theorem ml_LW_30 : Cond.methodLink "StackedRowsLaw" 30 yy_SR_make ∈ xt_T := xt_in (List.mem_of_getElem? (i := 736) (by decide +kernel)) (by decide +kernel)
theorem ml_LW_34 : Cond.methodLink "StackedRowsLaw" 34 yy_SR_blank ∈ xt_T := xt_in (List.mem_of_getElem? (i := 795) (by decide +kernel)) (by decide +kernel)
theorem ml_LW_38 : Cond.methodLink "StackedRowsLaw" 38 yy_SR_place ∈ xt_T := xt_in (List.mem_of_getElem? (i := 803) (by decide +kernel)) (by decide +kernel)
theorem ml_LW_43 : Cond.methodLink "StackedRowsLaw" 43 yy_SR_put ∈ xt_T := xt_in (List.mem_of_getElem? (i := 834) (by decide +kernel)) (by decide +kernel)
theorem ml_LW_47 : Cond.methodLink "StackedRowsLaw" 47 yy_SR_solve ∈ xt_T := xt_in (List.mem_of_getElem? (i := 842) (by decide +kernel)) (by decide +kernel)
theorem ml_LW_51 : Cond.methodLink "StackedRowsLaw" 51 yy_SR_solved ∈ xt_T := xt_in (List.mem_of_getElem? (i := 1046) (by decide +kernel)) (by decide +kernel)
theorem ml_LW_54 : Cond.methodLink "StackedRowsLaw" 54 yy_SR_count ∈ xt_T := xt_in (List.mem_of_getElem? (i := 1053) (by decide +kernel)) (by decide +kernel)
theorem ml_LW_57 : Cond.methodLink "StackedRowsLaw" 57 yy_SR_init ∈ xt_T := xt_in (List.mem_of_getElem? (i := 102) (by decide +kernel)) (by decide +kernel)
theorem ml_LW_60 : Cond.methodLink "StackedRowsLaw" 60 yy_MO_init ∈ xt_T := xt_in (List.mem_of_getElem? (i := 1061) (by decide +kernel)) (by decide +kernel)
theorem ml_LW_61 : Cond.methodLink "StackedRowsLaw" 61 yy_LW_feed ∈ xt_T := xt_in (List.mem_of_getElem? (i := 582) (by decide +kernel)) (by decide +kernel)
theorem ml_LW_66 : Cond.methodLink "StackedRowsLaw" 66 yy_MO_feed ∈ xt_T := xt_in (List.mem_of_getElem? (i := 1347) (by decide +kernel)) (by decide +kernel)
theorem ml_LW_67 : Cond.methodLink "StackedRowsLaw" 67 yy_MO_thrown ∈ xt_T := xt_in (List.mem_of_getElem? (i := 1163) (by decide +kernel)) (by decide +kernel)
theorem ml_LW_7 : Cond.methodLink "StackedRowsLaw" 7 yy_SR_feed ∈ xt_T := xt_in (List.mem_of_getElem? (i := 586) (by decide +kernel)) (by decide +kernel)
theorem ml_LW_70 : Cond.methodLink "StackedRowsLaw" 70 yy_LW_end ∈ xt_T := xt_in (List.mem_of_getElem? (i := 667) (by decide +kernel)) (by decide +kernel)
theorem ml_LW_73 : Cond.methodLink "StackedRowsLaw" 73 yy_MO_end ∈ xt_T := xt_in (List.mem_of_getElem? (i := 1351) (by decide +kernel)) (by decide +kernel)
theorem ml_LW_74 : Cond.methodLink "StackedRowsLaw" 74 yy_LW_byteAt ∈ xt_T := xt_in (List.mem_of_getElem? (i := 694) (by decide +kernel)) (by decide +kernel)
theorem ml_LW_77 : Cond.methodLink "StackedRowsLaw" 77 yy_MO_byteAt ∈ xt_T := xt_in (List.mem_of_getElem? (i := 1355) (by decide +kernel)) (by decide +kernel)
theorem ml_LW_78 : Cond.methodLink "StackedRowsLaw" 78 yy_SR_codewords ∈ xt_T := xt_in (List.mem_of_getElem? (i := 352) (by decide +kernel)) (by decide +kernel)
theorem ml_LW_81 : Cond.methodLink "StackedRowsLaw" 81 yy_MO_codewords ∈ xt_T := xt_in (List.mem_of_getElem? (i := 1167) (by decide +kernel)) (by decide +kernel)
theorem ml_LW_82 : Cond.methodLink "StackedRowsLaw" 82 yy_LW_codeword ∈ xt_T := xt_in (List.mem_of_getElem? (i := 718) (by decide +kernel)) (by decide +kernel)
theorem ml_LW_84 : Cond.methodLink "StackedRowsLaw" 84 yy_MO_codeword ∈ xt_T := xt_in (List.mem_of_getElem? (i := 1224) (by decide +kernel)) (by decide +kernel)
theorem ml_LW_85 : Cond.methodLink "StackedRowsLaw" 85 yy_LW_make ∈ xt_T := xt_in (List.mem_of_getElem? (i := 733) (by decide +kernel)) (by decide +kernel)
theorem ml_LW_88 : Cond.methodLink "StackedRowsLaw" 88 yy_MO_make ∈ xt_T := xt_in (List.mem_of_getElem? (i := 1228) (by decide +kernel)) (by decide +kernel)
theorem ml_LW_89 : Cond.methodLink "StackedRowsLaw" 89 yy_LW_blank ∈ xt_T := xt_in (List.mem_of_getElem? (i := 792) (by decide +kernel)) (by decide +kernel)
theorem ml_LW_92 : Cond.methodLink "StackedRowsLaw" 92 yy_MO_blank ∈ xt_T := xt_in (List.mem_of_getElem? (i := 1248) (by decide +kernel)) (by decide +kernel)
theorem ml_LW_93 : Cond.methodLink "StackedRowsLaw" 93 yy_LW_place ∈ xt_T := xt_in (List.mem_of_getElem? (i := 799) (by decide +kernel)) (by decide +kernel)
theorem ml_LW_95 : Cond.methodLink "StackedRowsLaw" 95 yy_MO_place ∈ xt_T := xt_in (List.mem_of_getElem? (i := 1252) (by decide +kernel)) (by decide +kernel)
theorem ml_LW_96 : Cond.methodLink "StackedRowsLaw" 96 yy_LW_put ∈ xt_T := xt_in (List.mem_of_getElem? (i := 831) (by decide +kernel)) (by decide +kernel)
theorem ml_LW_99 : Cond.methodLink "StackedRowsLaw" 99 yy_MO_put ∈ xt_T := xt_in (List.mem_of_getElem? (i := 1260) (by decide +kernel)) (by decide +kernel)
theorem ml_MO_131 : Cond.methodLink "StackedRowsModel" 131 yy_MO_writeAll ∈ xt_T := xt_in (List.mem_of_getElem? (i := 1171) (by decide +kernel)) (by decide +kernel)
theorem ml_MO_140 : Cond.methodLink "StackedRowsModel" 140 yy_MO_at ∈ xt_T := xt_in (List.mem_of_getElem? (i := 1240) (by decide +kernel)) (by decide +kernel)
theorem ml_MO_143 : Cond.methodLink "StackedRowsModel" 143 yy_MO_makeChecks ∈ xt_T := xt_in (List.mem_of_getElem? (i := 1232) (by decide +kernel)) (by decide +kernel)
theorem ml_MO_146 : Cond.methodLink "StackedRowsModel" 146 yy_MO_placeOf ∈ xt_T := xt_in (List.mem_of_getElem? (i := 1236) (by decide +kernel)) (by decide +kernel)
theorem ml_MO_149 : Cond.methodLink "StackedRowsModel" 149 yy_MO_indicator ∈ xt_T := xt_in (List.mem_of_getElem? (i := 1244) (by decide +kernel)) (by decide +kernel)
theorem wa_boolean : Cond.arrayClass .boolean ∈ xt_T := xt_in (List.mem_of_getElem? (i := 1162) (by decide +kernel)) (by decide +kernel)
theorem wa_int : Cond.arrayClass .int ∈ xt_T := xt_in (List.mem_of_getElem? (i := 121) (by decide +kernel)) (by decide +kernel)
theorem wa_long : Cond.arrayClass .long ∈ xt_T := xt_in (List.mem_of_getElem? (i := 1363) (by decide +kernel)) (by decide +kernel)
theorem ws_un : Cond.laysStatic "java/lang/Throwable" "UNASSIGNED_STACK" "[Ljava/lang/StackTraceElement;" ∈ lw_tbl := List.mem_of_getElem? (i := 618) (by decide +kernel)
theorem ws_su : Cond.laysStatic "java/lang/Throwable" "SUPPRESSED_SENTINEL" "Ljava/util/List;" ∈ lw_tbl := List.mem_of_getElem? (i := 620) (by decide +kernel)
theorem ws_ca : Cond.laysStatic "StackedRows$Letters" "CAPITALS" "LStackedRows$Letters;" ∈ lw_tbl := List.mem_of_getElem? (i := 148) (by decide +kernel)
theorem wn_TH : Cond.initialized "java/lang/Throwable" ∈ xt_T := xt_in (List.mem_of_getElem? (i := 86) (by decide +kernel)) (by decide +kernel)
theorem wn_LE : Cond.initialized "StackedRows$Letters" ∈ xt_T := xt_in (List.mem_of_getElem? (i := 77) (by decide +kernel)) (by decide +kernel)
theorem ws_d0 : Cond.declares ⟨"java/lang/RuntimeException", "<init>", "()V"⟩ ∈ lw_tbl := List.mem_of_getElem? (i := 594) (by decide +kernel)
theorem ws_d1 : Cond.declares ⟨"java/lang/Exception", "<init>", "()V"⟩ ∈ lw_tbl := List.mem_of_getElem? (i := 596) (by decide +kernel)
theorem ws_d2 : Cond.declares ⟨"java/lang/Throwable", "<init>", "()V"⟩ ∈ lw_tbl := List.mem_of_getElem? (i := 598) (by decide +kernel)
theorem ws_c0 : Cond.castable "java/lang/UnsupportedOperationException" "java/lang/UnsupportedOperationException" ∈ lw_tbl := List.mem_of_getElem? (i := 593) (by decide +kernel)
theorem ws_c1 : Cond.castable "java/lang/IllegalArgumentException" "java/lang/IllegalArgumentException" ∈ lw_tbl := List.mem_of_getElem? (i := 677) (by decide +kernel)
theorem ws_c2 : Cond.castable "java/lang/IndexOutOfBoundsException" "java/lang/IndexOutOfBoundsException" ∈ lw_tbl := List.mem_of_getElem? (i := 704) (by decide +kernel)
theorem ws_c3 : Cond.castable "java/lang/IllegalStateException" "java/lang/IllegalStateException" ∈ lw_tbl := List.mem_of_getElem? (i := 813) (by decide +kernel)
theorem ws_ng : xn_neg ∈ lw_tbl := List.mem_of_getElem? (i := 758) (by decide +kernel)
theorem wk_SR : Cond.instantiable "StackedRows" 7 ∈ xt_T := xt_in (List.mem_of_getElem? (i := 101) (by decide +kernel)) (by decide +kernel)
theorem wk_BN : Cond.instantiable "StackedRows$BigNumber" 2 ∈ xt_T := xt_in (List.mem_of_getElem? (i := 160) (by decide +kernel)) (by decide +kernel)
theorem wk_CK : Cond.instantiable "StackedRows$Checks" 1 ∈ xt_T := xt_in (List.mem_of_getElem? (i := 201) (by decide +kernel)) (by decide +kernel)
theorem wk_CW : Cond.instantiable "StackedRows$Codewords" 2 ∈ xt_T := xt_in (List.mem_of_getElem? (i := 129) (by decide +kernel)) (by decide +kernel)
theorem wk_MD : Cond.instantiable "StackedRows$Mender" 9 ∈ xt_T := xt_in (List.mem_of_getElem? (i := 233) (by decide +kernel)) (by decide +kernel)
theorem wk_RD : Cond.instantiable "StackedRows$Reader" 8 ∈ xt_T := xt_in (List.mem_of_getElem? (i := 269) (by decide +kernel)) (by decide +kernel)
theorem wk_SV : Cond.instantiable "StackedRows$Solver" 9 ∈ xt_T := xt_in (List.mem_of_getElem? (i := 227) (by decide +kernel)) (by decide +kernel)
theorem wk_SY : Cond.instantiable "StackedRows$Symbol" 3 ∈ xt_T := xt_in (List.mem_of_getElem? (i := 211) (by decide +kernel)) (by decide +kernel)
theorem wk_TP : Cond.instantiable "StackedRows$Tape" 2 ∈ xt_T := xt_in (List.mem_of_getElem? (i := 109) (by decide +kernel)) (by decide +kernel)
theorem wk_TW : Cond.instantiable "StackedRows$TextWriter" 3 ∈ xt_T := xt_in (List.mem_of_getElem? (i := 142) (by decide +kernel)) (by decide +kernel)
theorem wk_WR : Cond.instantiable "StackedRows$Writer" 8 ∈ xt_T := xt_in (List.mem_of_getElem? (i := 123) (by decide +kernel)) (by decide +kernel)
theorem wk_MO : Cond.instantiable "StackedRowsModel" 32 ∈ xt_T := xt_in (List.mem_of_getElem? (i := 1060) (by decide +kernel)) (by decide +kernel)
theorem fi_SR : ∀ w ∈ u_ws "StackedRows" tk_T0 7, w ∈ xt_T := by
  intro w hw
  obtain ⟨k, hk, rfl⟩ := List.mem_map.mp hw
  have hk := List.mem_range.mp hk
  rcases (show k = 0 ∨ k = 1 ∨ k = 2 ∨ k = 3 ∨ k = 4 ∨ k = 5 ∨ k = 6 by omega) with rfl | rfl | rfl | rfl | rfl | rfl | rfl
  · exact xt_in (List.mem_of_getElem? (i := 337) (by decide +kernel)) (by decide +kernel)
  · exact xt_in (List.mem_of_getElem? (i := 339) (by decide +kernel)) (by decide +kernel)
  · exact xt_in (List.mem_of_getElem? (i := 341) (by decide +kernel)) (by decide +kernel)
  · exact xt_in (List.mem_of_getElem? (i := 343) (by decide +kernel)) (by decide +kernel)
  · exact xt_in (List.mem_of_getElem? (i := 345) (by decide +kernel)) (by decide +kernel)
  · exact xt_in (List.mem_of_getElem? (i := 347) (by decide +kernel)) (by decide +kernel)
  · exact xt_in (List.mem_of_getElem? (i := 349) (by decide +kernel)) (by decide +kernel)
theorem fi_BN : ∀ w ∈ u_ws "StackedRows$BigNumber" tk_T1 2, w ∈ xt_T := by
  intro w hw
  obtain ⟨k, hk, rfl⟩ := List.mem_map.mp hw
  have hk := List.mem_range.mp hk
  rcases (show k = 0 ∨ k = 1 by omega) with rfl | rfl
  · exact xt_in (List.mem_of_getElem? (i := 170) (by decide +kernel)) (by decide +kernel)
  · exact xt_in (List.mem_of_getElem? (i := 172) (by decide +kernel)) (by decide +kernel)
theorem fi_CK : ∀ w ∈ u_ws "StackedRows$Checks" tk_T2 1, w ∈ xt_T := by
  intro w hw
  obtain ⟨k, hk, rfl⟩ := List.mem_map.mp hw
  have hk := List.mem_range.mp hk
  rcases (show k = 0 by omega) with rfl
  · exact xt_in (List.mem_of_getElem? (i := 207) (by decide +kernel)) (by decide +kernel)
theorem fi_CW : ∀ w ∈ u_ws "StackedRows$Codewords" tk_T3 2, w ∈ xt_T := by
  intro w hw
  obtain ⟨k, hk, rfl⟩ := List.mem_map.mp hw
  have hk := List.mem_range.mp hk
  rcases (show k = 0 ∨ k = 1 by omega) with rfl | rfl
  · exact xt_in (List.mem_of_getElem? (i := 136) (by decide +kernel)) (by decide +kernel)
  · exact xt_in (List.mem_of_getElem? (i := 138) (by decide +kernel)) (by decide +kernel)
theorem fi_MD : ∀ w ∈ u_ws "StackedRows$Mender" tk_T4 9, w ∈ xt_T := by
  intro w hw
  obtain ⟨k, hk, rfl⟩ := List.mem_map.mp hw
  have hk := List.mem_range.mp hk
  rcases (show k = 0 ∨ k = 1 ∨ k = 2 ∨ k = 3 ∨ k = 4 ∨ k = 5 ∨ k = 6 ∨ k = 7 ∨ k = 8 by omega) with rfl | rfl | rfl | rfl | rfl | rfl | rfl | rfl | rfl
  · exact xt_in (List.mem_of_getElem? (i := 247) (by decide +kernel)) (by decide +kernel)
  · exact xt_in (List.mem_of_getElem? (i := 249) (by decide +kernel)) (by decide +kernel)
  · exact xt_in (List.mem_of_getElem? (i := 251) (by decide +kernel)) (by decide +kernel)
  · exact xt_in (List.mem_of_getElem? (i := 253) (by decide +kernel)) (by decide +kernel)
  · exact xt_in (List.mem_of_getElem? (i := 255) (by decide +kernel)) (by decide +kernel)
  · exact xt_in (List.mem_of_getElem? (i := 257) (by decide +kernel)) (by decide +kernel)
  · exact xt_in (List.mem_of_getElem? (i := 259) (by decide +kernel)) (by decide +kernel)
  · exact xt_in (List.mem_of_getElem? (i := 261) (by decide +kernel)) (by decide +kernel)
  · exact xt_in (List.mem_of_getElem? (i := 263) (by decide +kernel)) (by decide +kernel)
theorem fi_RD : ∀ w ∈ u_ws "StackedRows$Reader" tk_T5 8, w ∈ xt_T := by
  intro w hw
  obtain ⟨k, hk, rfl⟩ := List.mem_map.mp hw
  have hk := List.mem_range.mp hk
  rcases (show k = 0 ∨ k = 1 ∨ k = 2 ∨ k = 3 ∨ k = 4 ∨ k = 5 ∨ k = 6 ∨ k = 7 by omega) with rfl | rfl | rfl | rfl | rfl | rfl | rfl | rfl
  · exact xt_in (List.mem_of_getElem? (i := 285) (by decide +kernel)) (by decide +kernel)
  · exact xt_in (List.mem_of_getElem? (i := 287) (by decide +kernel)) (by decide +kernel)
  · exact xt_in (List.mem_of_getElem? (i := 289) (by decide +kernel)) (by decide +kernel)
  · exact xt_in (List.mem_of_getElem? (i := 291) (by decide +kernel)) (by decide +kernel)
  · exact xt_in (List.mem_of_getElem? (i := 293) (by decide +kernel)) (by decide +kernel)
  · exact xt_in (List.mem_of_getElem? (i := 295) (by decide +kernel)) (by decide +kernel)
  · exact xt_in (List.mem_of_getElem? (i := 297) (by decide +kernel)) (by decide +kernel)
  · exact xt_in (List.mem_of_getElem? (i := 299) (by decide +kernel)) (by decide +kernel)
theorem fi_SV : ∀ w ∈ u_ws "StackedRows$Solver" tk_T6 9, w ∈ xt_T := by
  intro w hw
  obtain ⟨k, hk, rfl⟩ := List.mem_map.mp hw
  have hk := List.mem_range.mp hk
  rcases (show k = 0 ∨ k = 1 ∨ k = 2 ∨ k = 3 ∨ k = 4 ∨ k = 5 ∨ k = 6 ∨ k = 7 ∨ k = 8 by omega) with rfl | rfl | rfl | rfl | rfl | rfl | rfl | rfl | rfl
  · exact xt_in (List.mem_of_getElem? (i := 311) (by decide +kernel)) (by decide +kernel)
  · exact xt_in (List.mem_of_getElem? (i := 313) (by decide +kernel)) (by decide +kernel)
  · exact xt_in (List.mem_of_getElem? (i := 315) (by decide +kernel)) (by decide +kernel)
  · exact xt_in (List.mem_of_getElem? (i := 317) (by decide +kernel)) (by decide +kernel)
  · exact xt_in (List.mem_of_getElem? (i := 319) (by decide +kernel)) (by decide +kernel)
  · exact xt_in (List.mem_of_getElem? (i := 321) (by decide +kernel)) (by decide +kernel)
  · exact xt_in (List.mem_of_getElem? (i := 323) (by decide +kernel)) (by decide +kernel)
  · exact xt_in (List.mem_of_getElem? (i := 325) (by decide +kernel)) (by decide +kernel)
  · exact xt_in (List.mem_of_getElem? (i := 327) (by decide +kernel)) (by decide +kernel)
theorem fi_SY : ∀ w ∈ u_ws "StackedRows$Symbol" tk_T7 3, w ∈ xt_T := by
  intro w hw
  obtain ⟨k, hk, rfl⟩ := List.mem_map.mp hw
  have hk := List.mem_range.mp hk
  rcases (show k = 0 ∨ k = 1 ∨ k = 2 by omega) with rfl | rfl | rfl
  · exact xt_in (List.mem_of_getElem? (i := 219) (by decide +kernel)) (by decide +kernel)
  · exact xt_in (List.mem_of_getElem? (i := 221) (by decide +kernel)) (by decide +kernel)
  · exact xt_in (List.mem_of_getElem? (i := 223) (by decide +kernel)) (by decide +kernel)
theorem fi_TP : ∀ w ∈ u_ws "StackedRows$Tape" tk_T8 2, w ∈ xt_T := by
  intro w hw
  obtain ⟨k, hk, rfl⟩ := List.mem_map.mp hw
  have hk := List.mem_range.mp hk
  rcases (show k = 0 ∨ k = 1 by omega) with rfl | rfl
  · exact xt_in (List.mem_of_getElem? (i := 116) (by decide +kernel)) (by decide +kernel)
  · exact xt_in (List.mem_of_getElem? (i := 118) (by decide +kernel)) (by decide +kernel)
theorem fi_TW : ∀ w ∈ u_ws "StackedRows$TextWriter" tk_T9 3, w ∈ xt_T := by
  intro w hw
  obtain ⟨k, hk, rfl⟩ := List.mem_map.mp hw
  have hk := List.mem_range.mp hk
  rcases (show k = 0 ∨ k = 1 ∨ k = 2 by omega) with rfl | rfl | rfl
  · exact xt_in (List.mem_of_getElem? (i := 152) (by decide +kernel)) (by decide +kernel)
  · exact xt_in (List.mem_of_getElem? (i := 154) (by decide +kernel)) (by decide +kernel)
  · exact xt_in (List.mem_of_getElem? (i := 156) (by decide +kernel)) (by decide +kernel)
theorem fi_WR : ∀ w ∈ u_ws "StackedRows$Writer" tk_T10 8, w ∈ xt_T := by
  intro w hw
  obtain ⟨k, hk, rfl⟩ := List.mem_map.mp hw
  have hk := List.mem_range.mp hk
  rcases (show k = 0 ∨ k = 1 ∨ k = 2 ∨ k = 3 ∨ k = 4 ∨ k = 5 ∨ k = 6 ∨ k = 7 by omega) with rfl | rfl | rfl | rfl | rfl | rfl | rfl | rfl
  · exact xt_in (List.mem_of_getElem? (i := 183) (by decide +kernel)) (by decide +kernel)
  · exact xt_in (List.mem_of_getElem? (i := 185) (by decide +kernel)) (by decide +kernel)
  · exact xt_in (List.mem_of_getElem? (i := 187) (by decide +kernel)) (by decide +kernel)
  · exact xt_in (List.mem_of_getElem? (i := 189) (by decide +kernel)) (by decide +kernel)
  · exact xt_in (List.mem_of_getElem? (i := 191) (by decide +kernel)) (by decide +kernel)
  · exact xt_in (List.mem_of_getElem? (i := 193) (by decide +kernel)) (by decide +kernel)
  · exact xt_in (List.mem_of_getElem? (i := 195) (by decide +kernel)) (by decide +kernel)
  · exact xt_in (List.mem_of_getElem? (i := 197) (by decide +kernel)) (by decide +kernel)
theorem fi_MO : ∀ w ∈ u_ws "StackedRowsModel" tk_T11 32, w ∈ xt_T := by
  intro w hw
  obtain ⟨k, hk, rfl⟩ := List.mem_map.mp hw
  have hk := List.mem_range.mp hk
  rcases (show k = 0 ∨ k = 1 ∨ k = 2 ∨ k = 3 ∨ k = 4 ∨ k = 5 ∨ k = 6 ∨ k = 7 ∨ k = 8 ∨ k = 9 ∨ k = 10 ∨ k = 11 ∨ k = 12 ∨ k = 13 ∨ k = 14 ∨ k = 15 ∨ k = 16 ∨ k = 17 ∨ k = 18 ∨ k = 19 ∨ k = 20 ∨ k = 21 ∨ k = 22 ∨ k = 23 ∨ k = 24 ∨ k = 25 ∨ k = 26 ∨ k = 27 ∨ k = 28 ∨ k = 29 ∨ k = 30 ∨ k = 31 by omega) with rfl | rfl | rfl | rfl | rfl | rfl | rfl | rfl | rfl | rfl | rfl | rfl | rfl | rfl | rfl | rfl | rfl | rfl | rfl | rfl | rfl | rfl | rfl | rfl | rfl | rfl | rfl | rfl | rfl | rfl | rfl | rfl
  · exact xt_in (List.mem_of_getElem? (i := 1097) (by decide +kernel)) (by decide +kernel)
  · exact xt_in (List.mem_of_getElem? (i := 1099) (by decide +kernel)) (by decide +kernel)
  · exact xt_in (List.mem_of_getElem? (i := 1101) (by decide +kernel)) (by decide +kernel)
  · exact xt_in (List.mem_of_getElem? (i := 1103) (by decide +kernel)) (by decide +kernel)
  · exact xt_in (List.mem_of_getElem? (i := 1105) (by decide +kernel)) (by decide +kernel)
  · exact xt_in (List.mem_of_getElem? (i := 1107) (by decide +kernel)) (by decide +kernel)
  · exact xt_in (List.mem_of_getElem? (i := 1109) (by decide +kernel)) (by decide +kernel)
  · exact xt_in (List.mem_of_getElem? (i := 1111) (by decide +kernel)) (by decide +kernel)
  · exact xt_in (List.mem_of_getElem? (i := 1113) (by decide +kernel)) (by decide +kernel)
  · exact xt_in (List.mem_of_getElem? (i := 1115) (by decide +kernel)) (by decide +kernel)
  · exact xt_in (List.mem_of_getElem? (i := 1117) (by decide +kernel)) (by decide +kernel)
  · exact xt_in (List.mem_of_getElem? (i := 1119) (by decide +kernel)) (by decide +kernel)
  · exact xt_in (List.mem_of_getElem? (i := 1121) (by decide +kernel)) (by decide +kernel)
  · exact xt_in (List.mem_of_getElem? (i := 1123) (by decide +kernel)) (by decide +kernel)
  · exact xt_in (List.mem_of_getElem? (i := 1125) (by decide +kernel)) (by decide +kernel)
  · exact xt_in (List.mem_of_getElem? (i := 1127) (by decide +kernel)) (by decide +kernel)
  · exact xt_in (List.mem_of_getElem? (i := 1129) (by decide +kernel)) (by decide +kernel)
  · exact xt_in (List.mem_of_getElem? (i := 1131) (by decide +kernel)) (by decide +kernel)
  · exact xt_in (List.mem_of_getElem? (i := 1133) (by decide +kernel)) (by decide +kernel)
  · exact xt_in (List.mem_of_getElem? (i := 1135) (by decide +kernel)) (by decide +kernel)
  · exact xt_in (List.mem_of_getElem? (i := 1137) (by decide +kernel)) (by decide +kernel)
  · exact xt_in (List.mem_of_getElem? (i := 1139) (by decide +kernel)) (by decide +kernel)
  · exact xt_in (List.mem_of_getElem? (i := 1141) (by decide +kernel)) (by decide +kernel)
  · exact xt_in (List.mem_of_getElem? (i := 1143) (by decide +kernel)) (by decide +kernel)
  · exact xt_in (List.mem_of_getElem? (i := 1145) (by decide +kernel)) (by decide +kernel)
  · exact xt_in (List.mem_of_getElem? (i := 1147) (by decide +kernel)) (by decide +kernel)
  · exact xt_in (List.mem_of_getElem? (i := 1149) (by decide +kernel)) (by decide +kernel)
  · exact xt_in (List.mem_of_getElem? (i := 1151) (by decide +kernel)) (by decide +kernel)
  · exact xt_in (List.mem_of_getElem? (i := 1153) (by decide +kernel)) (by decide +kernel)
  · exact xt_in (List.mem_of_getElem? (i := 1155) (by decide +kernel)) (by decide +kernel)
  · exact xt_in (List.mem_of_getElem? (i := 1157) (by decide +kernel)) (by decide +kernel)
  · exact xt_in (List.mem_of_getElem? (i := 1159) (by decide +kernel)) (by decide +kernel)
theorem fl_CK_9 : Cond.fieldLink "StackedRows$Checks" 9 "StackedRows$Checks" "factors" "[I" ∈ xt_T := xt_in (List.mem_of_getElem? (i := 206) (by decide +kernel)) (by decide +kernel)
theorem gf_CK_9 (hx : p.tables.exec = Jvm.exec) (hb : c.code = cc) (hts : ∀ w ∈ xt_T, w.before args s = true) (hown : s.vm.findClass "StackedRows$Checks" = some m.cls) (hK : va_K g.1 vwCl (xg_t g) s) (hP : va_P g.1 vwCl ws H) (q0 : Nat) {fs : List Value} (he : ws[q0]? = some (oc_o a 2 fs)) {v : Value} (hv : fs[0]? = some v) (hdg : decode cc pc = .ok (.getfield 9, 3)) (kk : W p l e R s m args below meth c H locs cells slots Q (F0 m (pc + 3) ls (v :: rest))) : W p l e R s m args below meth c H locs cells slots Q (F0 m pc ls (.ref a :: rest)) :=
  va_get (C := "StackedRows$Checks") (T := tk_T2) (N := 1) hx hb hts fi_CK hown hK hP q0 he rfl 0 (by decide) (hts _ fl_CK_9) (fun _ h9 => h9) hv hdg kk
theorem fl_CW_15 : Cond.fieldLink "StackedRows$Codewords" 15 "StackedRows$Codewords" "size" "I" ∈ xt_T := xt_in (List.mem_of_getElem? (i := 135) (by decide +kernel)) (by decide +kernel)
theorem gf_CW_15 (hx : p.tables.exec = Jvm.exec) (hb : c.code = cc) (hts : ∀ w ∈ xt_T, w.before args s = true) (hown : s.vm.findClass "StackedRows$Codewords" = some m.cls) (hK : va_K g.1 vwCl (xg_t g) s) (hP : va_P g.1 vwCl ws H) (q0 : Nat) {fs : List Value} (he : ws[q0]? = some (oc_o a 3 fs)) {v : Value} (hv : fs[1]? = some v) (hdg : decode cc pc = .ok (.getfield 15, 3)) (kk : W p l e R s m args below meth c H locs cells slots Q (F0 m (pc + 3) ls (v :: rest))) : W p l e R s m args below meth c H locs cells slots Q (F0 m pc ls (.ref a :: rest)) :=
  va_get (C := "StackedRows$Codewords") (T := tk_T3) (N := 2) hx hb hts fi_CW hown hK hP q0 he rfl 1 (by decide) (hts _ fl_CW_15) (fun _ h9 => h9) hv hdg kk
theorem fl_SV_18 : Cond.fieldLink "StackedRows$Solver" 18 "StackedRows$Solver" "mended" "[I" ∈ xt_T := xt_in (List.mem_of_getElem? (i := 304) (by decide +kernel)) (by decide +kernel)
theorem gf_SV_18 (hx : p.tables.exec = Jvm.exec) (hb : c.code = cc) (hts : ∀ w ∈ xt_T, w.before args s = true) (hown : s.vm.findClass "StackedRows$Solver" = some m.cls) (hK : va_K g.1 vwCl (xg_t g) s) (hP : va_P g.1 vwCl ws H) (q0 : Nat) {fs : List Value} (he : ws[q0]? = some (oc_o a 6 fs)) {v : Value} (hv : fs[2]? = some v) (hdg : decode cc pc = .ok (.getfield 18, 3)) (kk : W p l e R s m args below meth c H locs cells slots Q (F0 m (pc + 3) ls (v :: rest))) : W p l e R s m args below meth c H locs cells slots Q (F0 m pc ls (.ref a :: rest)) :=
  va_get (C := "StackedRows$Solver") (T := tk_T6) (N := 9) hx hb hts fi_SV hown hK hP q0 he rfl 2 (by decide) (hts _ fl_SV_18) (fun _ h9 => h9) hv hdg kk
theorem fl_SV_33 : Cond.fieldLink "StackedRows$Solver" 33 "StackedRows$Solver" "bytes" "LStackedRows$Tape;" ∈ xt_T := xt_in (List.mem_of_getElem? (i := 306) (by decide +kernel)) (by decide +kernel)
theorem gf_SV_33 (hx : p.tables.exec = Jvm.exec) (hb : c.code = cc) (hts : ∀ w ∈ xt_T, w.before args s = true) (hown : s.vm.findClass "StackedRows$Solver" = some m.cls) (hK : va_K g.1 vwCl (xg_t g) s) (hP : va_P g.1 vwCl ws H) (q0 : Nat) {fs : List Value} (he : ws[q0]? = some (oc_o a 6 fs)) {v : Value} (hv : fs[4]? = some v) (hdg : decode cc pc = .ok (.getfield 33, 3)) (kk : W p l e R s m args below meth c H locs cells slots Q (F0 m (pc + 3) ls (v :: rest))) : W p l e R s m args below meth c H locs cells slots Q (F0 m pc ls (.ref a :: rest)) :=
  va_get (C := "StackedRows$Solver") (T := tk_T6) (N := 9) hx hb hts fi_SV hown hK hP q0 he rfl 4 (by decide) (hts _ fl_SV_33) (fun _ h9 => h9) hv hdg kk
theorem fl_SY_15 : Cond.fieldLink "StackedRows$Symbol" 15 "StackedRows$Symbol" "rows" "I" ∈ xt_T := xt_in (List.mem_of_getElem? (i := 217) (by decide +kernel)) (by decide +kernel)
theorem gf_SY_15 (hx : p.tables.exec = Jvm.exec) (hb : c.code = cc) (hts : ∀ w ∈ xt_T, w.before args s = true) (hown : s.vm.findClass "StackedRows$Symbol" = some m.cls) (hK : va_K g.1 vwCl (xg_t g) s) (hP : va_P g.1 vwCl ws H) (q0 : Nat) {fs : List Value} (he : ws[q0]? = some (oc_o a 7 fs)) {v : Value} (hv : fs[1]? = some v) (hdg : decode cc pc = .ok (.getfield 15, 3)) (kk : W p l e R s m args below meth c H locs cells slots Q (F0 m (pc + 3) ls (v :: rest))) : W p l e R s m args below meth c H locs cells slots Q (F0 m pc ls (.ref a :: rest)) :=
  va_get (C := "StackedRows$Symbol") (T := tk_T7) (N := 3) hx hb hts fi_SY hown hK hP q0 he rfl 1 (by decide) (hts _ fl_SY_15) (fun _ h9 => h9) hv hdg kk
theorem fl_SY_19 : Cond.fieldLink "StackedRows$Symbol" 19 "StackedRows$Symbol" "columns" "I" ∈ xt_T := xt_in (List.mem_of_getElem? (i := 218) (by decide +kernel)) (by decide +kernel)
theorem gf_SY_19 (hx : p.tables.exec = Jvm.exec) (hb : c.code = cc) (hts : ∀ w ∈ xt_T, w.before args s = true) (hown : s.vm.findClass "StackedRows$Symbol" = some m.cls) (hK : va_K g.1 vwCl (xg_t g) s) (hP : va_P g.1 vwCl ws H) (q0 : Nat) {fs : List Value} (he : ws[q0]? = some (oc_o a 7 fs)) {v : Value} (hv : fs[2]? = some v) (hdg : decode cc pc = .ok (.getfield 19, 3)) (kk : W p l e R s m args below meth c H locs cells slots Q (F0 m (pc + 3) ls (v :: rest))) : W p l e R s m args below meth c H locs cells slots Q (F0 m pc ls (.ref a :: rest)) :=
  va_get (C := "StackedRows$Symbol") (T := tk_T7) (N := 3) hx hb hts fi_SY hown hK hP q0 he rfl 2 (by decide) (hts _ fl_SY_19) (fun _ h9 => h9) hv hdg kk
theorem fl_SY_9 : Cond.fieldLink "StackedRows$Symbol" 9 "StackedRows$Symbol" "places" "[I" ∈ xt_T := xt_in (List.mem_of_getElem? (i := 216) (by decide +kernel)) (by decide +kernel)
theorem gf_SY_9 (hx : p.tables.exec = Jvm.exec) (hb : c.code = cc) (hts : ∀ w ∈ xt_T, w.before args s = true) (hown : s.vm.findClass "StackedRows$Symbol" = some m.cls) (hK : va_K g.1 vwCl (xg_t g) s) (hP : va_P g.1 vwCl ws H) (q0 : Nat) {fs : List Value} (he : ws[q0]? = some (oc_o a 7 fs)) {v : Value} (hv : fs[0]? = some v) (hdg : decode cc pc = .ok (.getfield 9, 3)) (kk : W p l e R s m args below meth c H locs cells slots Q (F0 m (pc + 3) ls (v :: rest))) : W p l e R s m args below meth c H locs cells slots Q (F0 m pc ls (.ref a :: rest)) :=
  va_get (C := "StackedRows$Symbol") (T := tk_T7) (N := 3) hx hb hts fi_SY hown hK hP q0 he rfl 0 (by decide) (hts _ fl_SY_9) (fun _ h9 => h9) hv hdg kk
theorem fl_TP_15 : Cond.fieldLink "StackedRows$Tape" 15 "StackedRows$Tape" "size" "I" ∈ xt_T := xt_in (List.mem_of_getElem? (i := 115) (by decide +kernel)) (by decide +kernel)
theorem gf_TP_15 (hx : p.tables.exec = Jvm.exec) (hb : c.code = cc) (hts : ∀ w ∈ xt_T, w.before args s = true) (hown : s.vm.findClass "StackedRows$Tape" = some m.cls) (hK : va_K g.1 vwCl (xg_t g) s) (hP : va_P g.1 vwCl ws H) (q0 : Nat) {fs : List Value} (he : ws[q0]? = some (oc_o a 8 fs)) {v : Value} (hv : fs[1]? = some v) (hdg : decode cc pc = .ok (.getfield 15, 3)) (kk : W p l e R s m args below meth c H locs cells slots Q (F0 m (pc + 3) ls (v :: rest))) : W p l e R s m args below meth c H locs cells slots Q (F0 m pc ls (.ref a :: rest)) :=
  va_get (C := "StackedRows$Tape") (T := tk_T8) (N := 2) hx hb hts fi_TP hown hK hP q0 he rfl 1 (by decide) (hts _ fl_TP_15) (fun _ h9 => h9) hv hdg kk
theorem fl_TP_9 : Cond.fieldLink "StackedRows$Tape" 9 "StackedRows$Tape" "bytes" "[I" ∈ xt_T := xt_in (List.mem_of_getElem? (i := 114) (by decide +kernel)) (by decide +kernel)
theorem gf_TP_9 (hx : p.tables.exec = Jvm.exec) (hb : c.code = cc) (hts : ∀ w ∈ xt_T, w.before args s = true) (hown : s.vm.findClass "StackedRows$Tape" = some m.cls) (hK : va_K g.1 vwCl (xg_t g) s) (hP : va_P g.1 vwCl ws H) (q0 : Nat) {fs : List Value} (he : ws[q0]? = some (oc_o a 8 fs)) {v : Value} (hv : fs[0]? = some v) (hdg : decode cc pc = .ok (.getfield 9, 3)) (kk : W p l e R s m args below meth c H locs cells slots Q (F0 m (pc + 3) ls (v :: rest))) : W p l e R s m args below meth c H locs cells slots Q (F0 m pc ls (.ref a :: rest)) :=
  va_get (C := "StackedRows$Tape") (T := tk_T8) (N := 2) hx hb hts fi_TP hown hK hP q0 he rfl 0 (by decide) (hts _ fl_TP_9) (fun _ h9 => h9) hv hdg kk
theorem fl_WR_18 : Cond.fieldLink "StackedRows$Writer" 18 "StackedRows$Writer" "out" "LStackedRows$Codewords;" ∈ xt_T := xt_in (List.mem_of_getElem? (i := 176) (by decide +kernel)) (by decide +kernel)
theorem gf_WR_18 (hx : p.tables.exec = Jvm.exec) (hb : c.code = cc) (hts : ∀ w ∈ xt_T, w.before args s = true) (hown : s.vm.findClass "StackedRows$Writer" = some m.cls) (hK : va_K g.1 vwCl (xg_t g) s) (hP : va_P g.1 vwCl ws H) (q0 : Nat) {fs : List Value} (he : ws[q0]? = some (oc_o a 10 fs)) {v : Value} (hv : fs[1]? = some v) (hdg : decode cc pc = .ok (.getfield 18, 3)) (kk : W p l e R s m args below meth c H locs cells slots Q (F0 m (pc + 3) ls (v :: rest))) : W p l e R s m args below meth c H locs cells slots Q (F0 m pc ls (.ref a :: rest)) :=
  va_get (C := "StackedRows$Writer") (T := tk_T10) (N := 8) hx hb hts fi_WR hown hK hP q0 he rfl 1 (by decide) (hts _ fl_WR_18) (fun _ h9 => h9) hv hdg kk
theorem fl_WR_27 : Cond.fieldLink "StackedRows$Writer" 27 "StackedRows$Writer" "text" "LStackedRows$TextWriter;" ∈ xt_T := xt_in (List.mem_of_getElem? (i := 177) (by decide +kernel)) (by decide +kernel)
theorem gf_WR_27 (hx : p.tables.exec = Jvm.exec) (hb : c.code = cc) (hts : ∀ w ∈ xt_T, w.before args s = true) (hown : s.vm.findClass "StackedRows$Writer" = some m.cls) (hK : va_K g.1 vwCl (xg_t g) s) (hP : va_P g.1 vwCl ws H) (q0 : Nat) {fs : List Value} (he : ws[q0]? = some (oc_o a 10 fs)) {v : Value} (hv : fs[2]? = some v) (hdg : decode cc pc = .ok (.getfield 27, 3)) (kk : W p l e R s m args below meth c H locs cells slots Q (F0 m (pc + 3) ls (v :: rest))) : W p l e R s m args below meth c H locs cells slots Q (F0 m pc ls (.ref a :: rest)) :=
  va_get (C := "StackedRows$Writer") (T := tk_T10) (N := 8) hx hb hts fi_WR hown hK hP q0 he rfl 2 (by decide) (hts _ fl_WR_27) (fun _ h9 => h9) hv hdg kk
theorem fl_WR_40 : Cond.fieldLink "StackedRows$Writer" 40 "StackedRows$Writer" "digits" "[I" ∈ xt_T := xt_in (List.mem_of_getElem? (i := 179) (by decide +kernel)) (by decide +kernel)
theorem gf_WR_40 (hx : p.tables.exec = Jvm.exec) (hb : c.code = cc) (hts : ∀ w ∈ xt_T, w.before args s = true) (hown : s.vm.findClass "StackedRows$Writer" = some m.cls) (hK : va_K g.1 vwCl (xg_t g) s) (hP : va_P g.1 vwCl ws H) (q0 : Nat) {fs : List Value} (he : ws[q0]? = some (oc_o a 10 fs)) {v : Value} (hv : fs[4]? = some v) (hdg : decode cc pc = .ok (.getfield 40, 3)) (kk : W p l e R s m args below meth c H locs cells slots Q (F0 m (pc + 3) ls (v :: rest))) : W p l e R s m args below meth c H locs cells slots Q (F0 m pc ls (.ref a :: rest)) :=
  va_get (C := "StackedRows$Writer") (T := tk_T10) (N := 8) hx hb hts fi_WR hown hK hP q0 he rfl 4 (by decide) (hts _ fl_WR_40) (fun _ h9 => h9) hv hdg kk
theorem fl_WR_44 : Cond.fieldLink "StackedRows$Writer" 44 "StackedRows$Writer" "texts" "[I" ∈ xt_T := xt_in (List.mem_of_getElem? (i := 180) (by decide +kernel)) (by decide +kernel)
theorem gf_WR_44 (hx : p.tables.exec = Jvm.exec) (hb : c.code = cc) (hts : ∀ w ∈ xt_T, w.before args s = true) (hown : s.vm.findClass "StackedRows$Writer" = some m.cls) (hK : va_K g.1 vwCl (xg_t g) s) (hP : va_P g.1 vwCl ws H) (q0 : Nat) {fs : List Value} (he : ws[q0]? = some (oc_o a 10 fs)) {v : Value} (hv : fs[5]? = some v) (hdg : decode cc pc = .ok (.getfield 44, 3)) (kk : W p l e R s m args below meth c H locs cells slots Q (F0 m (pc + 3) ls (v :: rest))) : W p l e R s m args below meth c H locs cells slots Q (F0 m pc ls (.ref a :: rest)) :=
  va_get (C := "StackedRows$Writer") (T := tk_T10) (N := 8) hx hb hts fi_WR hown hK hP q0 he rfl 5 (by decide) (hts _ fl_WR_44) (fun _ h9 => h9) hv hdg kk
theorem fl_WR_51 : Cond.fieldLink "StackedRows$Writer" 51 "StackedRows$Writer" "fresh" "Z" ∈ xt_T := xt_in (List.mem_of_getElem? (i := 182) (by decide +kernel)) (by decide +kernel)
theorem gf_WR_51 (hx : p.tables.exec = Jvm.exec) (hb : c.code = cc) (hts : ∀ w ∈ xt_T, w.before args s = true) (hown : s.vm.findClass "StackedRows$Writer" = some m.cls) (hK : va_K g.1 vwCl (xg_t g) s) (hP : va_P g.1 vwCl ws H) (q0 : Nat) {fs : List Value} (he : ws[q0]? = some (oc_o a 10 fs)) {v : Value} (hv : fs[7]? = some v) (hdg : decode cc pc = .ok (.getfield 51, 3)) (kk : W p l e R s m args below meth c H locs cells slots Q (F0 m (pc + 3) ls (v :: rest))) : W p l e R s m args below meth c H locs cells slots Q (F0 m pc ls (.ref a :: rest)) :=
  va_get (C := "StackedRows$Writer") (T := tk_T10) (N := 8) hx hb hts fi_WR hown hK hP q0 he rfl 7 (by decide) (hts _ fl_WR_51) (fun _ h9 => h9) hv hdg kk
theorem fl_WR_9 : Cond.fieldLink "StackedRows$Writer" 9 "StackedRows$Writer" "tape" "LStackedRows$Tape;" ∈ xt_T := xt_in (List.mem_of_getElem? (i := 175) (by decide +kernel)) (by decide +kernel)
theorem gf_WR_9 (hx : p.tables.exec = Jvm.exec) (hb : c.code = cc) (hts : ∀ w ∈ xt_T, w.before args s = true) (hown : s.vm.findClass "StackedRows$Writer" = some m.cls) (hK : va_K g.1 vwCl (xg_t g) s) (hP : va_P g.1 vwCl ws H) (q0 : Nat) {fs : List Value} (he : ws[q0]? = some (oc_o a 10 fs)) {v : Value} (hv : fs[0]? = some v) (hdg : decode cc pc = .ok (.getfield 9, 3)) (kk : W p l e R s m args below meth c H locs cells slots Q (F0 m (pc + 3) ls (v :: rest))) : W p l e R s m args below meth c H locs cells slots Q (F0 m pc ls (.ref a :: rest)) :=
  va_get (C := "StackedRows$Writer") (T := tk_T10) (N := 8) hx hb hts fi_WR hown hK hP q0 he rfl 0 (by decide) (hts _ fl_WR_9) (fun _ h9 => h9) hv hdg kk
theorem fl_SR_12 : Cond.fieldLink "StackedRows" 12 "StackedRows" "tape" "LStackedRows$Tape;" ∈ xt_T := xt_in (List.mem_of_getElem? (i := 330) (by decide +kernel)) (by decide +kernel)
theorem gf_SR_12 (hx : p.tables.exec = Jvm.exec) (hb : c.code = cc) (hts : ∀ w ∈ xt_T, w.before args s = true) (hown : s.vm.findClass "StackedRows" = some m.cls) (hK : va_K g.1 vwCl (xg_t g) s) (hP : va_P g.1 vwCl ws H) (q0 : Nat) {fs : List Value} (he : ws[q0]? = some (oc_o a 0 fs)) {v : Value} (hv : fs[0]? = some v) (hdg : decode cc pc = .ok (.getfield 12, 3)) (kk : W p l e R s m args below meth c H locs cells slots Q (F0 m (pc + 3) ls (v :: rest))) : W p l e R s m args below meth c H locs cells slots Q (F0 m pc ls (.ref a :: rest)) :=
  va_get (C := "StackedRows") (T := tk_T0) (N := 7) hx hb hts fi_SR hown hK hP q0 he rfl 0 (by decide) (hts _ fl_SR_12) (fun _ h9 => h9) hv hdg kk
theorem fl_SR_21 : Cond.fieldLink "StackedRows" 21 "StackedRows" "writer" "LStackedRows$Writer;" ∈ xt_T := xt_in (List.mem_of_getElem? (i := 331) (by decide +kernel)) (by decide +kernel)
theorem gf_SR_21 (hx : p.tables.exec = Jvm.exec) (hb : c.code = cc) (hts : ∀ w ∈ xt_T, w.before args s = true) (hown : s.vm.findClass "StackedRows" = some m.cls) (hK : va_K g.1 vwCl (xg_t g) s) (hP : va_P g.1 vwCl ws H) (q0 : Nat) {fs : List Value} (he : ws[q0]? = some (oc_o a 0 fs)) {v : Value} (hv : fs[1]? = some v) (hdg : decode cc pc = .ok (.getfield 21, 3)) (kk : W p l e R s m args below meth c H locs cells slots Q (F0 m (pc + 3) ls (v :: rest))) : W p l e R s m args below meth c H locs cells slots Q (F0 m pc ls (.ref a :: rest)) :=
  va_get (C := "StackedRows") (T := tk_T0) (N := 7) hx hb hts fi_SR hown hK hP q0 he rfl 1 (by decide) (hts _ fl_SR_21) (fun _ h9 => h9) hv hdg kk
theorem fl_SR_28 : Cond.fieldLink "StackedRows" 28 "StackedRows" "checks" "LStackedRows$Checks;" ∈ xt_T := xt_in (List.mem_of_getElem? (i := 332) (by decide +kernel)) (by decide +kernel)
theorem gf_SR_28 (hx : p.tables.exec = Jvm.exec) (hb : c.code = cc) (hts : ∀ w ∈ xt_T, w.before args s = true) (hown : s.vm.findClass "StackedRows" = some m.cls) (hK : va_K g.1 vwCl (xg_t g) s) (hP : va_P g.1 vwCl ws H) (q0 : Nat) {fs : List Value} (he : ws[q0]? = some (oc_o a 0 fs)) {v : Value} (hv : fs[2]? = some v) (hdg : decode cc pc = .ok (.getfield 28, 3)) (kk : W p l e R s m args below meth c H locs cells slots Q (F0 m (pc + 3) ls (v :: rest))) : W p l e R s m args below meth c H locs cells slots Q (F0 m pc ls (.ref a :: rest)) :=
  va_get (C := "StackedRows") (T := tk_T0) (N := 7) hx hb hts fi_SR hown hK hP q0 he rfl 2 (by decide) (hts _ fl_SR_28) (fun _ h9 => h9) hv hdg kk
theorem fl_SR_35 : Cond.fieldLink "StackedRows" 35 "StackedRows" "symbol" "LStackedRows$Symbol;" ∈ xt_T := xt_in (List.mem_of_getElem? (i := 333) (by decide +kernel)) (by decide +kernel)
theorem gf_SR_35 (hx : p.tables.exec = Jvm.exec) (hb : c.code = cc) (hts : ∀ w ∈ xt_T, w.before args s = true) (hown : s.vm.findClass "StackedRows" = some m.cls) (hK : va_K g.1 vwCl (xg_t g) s) (hP : va_P g.1 vwCl ws H) (q0 : Nat) {fs : List Value} (he : ws[q0]? = some (oc_o a 0 fs)) {v : Value} (hv : fs[3]? = some v) (hdg : decode cc pc = .ok (.getfield 35, 3)) (kk : W p l e R s m args below meth c H locs cells slots Q (F0 m (pc + 3) ls (v :: rest))) : W p l e R s m args below meth c H locs cells slots Q (F0 m pc ls (.ref a :: rest)) :=
  va_get (C := "StackedRows") (T := tk_T0) (N := 7) hx hb hts fi_SR hown hK hP q0 he rfl 3 (by decide) (hts _ fl_SR_35) (fun _ h9 => h9) hv hdg kk
theorem fl_SR_39 : Cond.fieldLink "StackedRows" 39 "StackedRows" "row" "[I" ∈ xt_T := xt_in (List.mem_of_getElem? (i := 335) (by decide +kernel)) (by decide +kernel)
theorem gf_SR_39 (hx : p.tables.exec = Jvm.exec) (hb : c.code = cc) (hts : ∀ w ∈ xt_T, w.before args s = true) (hown : s.vm.findClass "StackedRows" = some m.cls) (hK : va_K g.1 vwCl (xg_t g) s) (hP : va_P g.1 vwCl ws H) (q0 : Nat) {fs : List Value} (he : ws[q0]? = some (oc_o a 0 fs)) {v : Value} (hv : fs[5]? = some v) (hdg : decode cc pc = .ok (.getfield 39, 3)) (kk : W p l e R s m args below meth c H locs cells slots Q (F0 m (pc + 3) ls (v :: rest))) : W p l e R s m args below meth c H locs cells slots Q (F0 m pc ls (.ref a :: rest)) :=
  va_get (C := "StackedRows") (T := tk_T0) (N := 7) hx hb hts fi_SR hown hK hP q0 he rfl 5 (by decide) (hts _ fl_SR_39) (fun _ h9 => h9) hv hdg kk
theorem fl_SR_52 : Cond.fieldLink "StackedRows" 52 "StackedRows" "latest" "[I" ∈ xt_T := xt_in (List.mem_of_getElem? (i := 336) (by decide +kernel)) (by decide +kernel)
theorem gf_SR_52 (hx : p.tables.exec = Jvm.exec) (hb : c.code = cc) (hts : ∀ w ∈ xt_T, w.before args s = true) (hown : s.vm.findClass "StackedRows" = some m.cls) (hK : va_K g.1 vwCl (xg_t g) s) (hP : va_P g.1 vwCl ws H) (q0 : Nat) {fs : List Value} (he : ws[q0]? = some (oc_o a 0 fs)) {v : Value} (hv : fs[6]? = some v) (hdg : decode cc pc = .ok (.getfield 52, 3)) (kk : W p l e R s m args below meth c H locs cells slots Q (F0 m (pc + 3) ls (v :: rest))) : W p l e R s m args below meth c H locs cells slots Q (F0 m pc ls (.ref a :: rest)) :=
  va_get (C := "StackedRows") (T := tk_T0) (N := 7) hx hb hts fi_SR hown hK hP q0 he rfl 6 (by decide) (hts _ fl_SR_52) (fun _ h9 => h9) hv hdg kk
theorem fl_MO_134 : Cond.fieldLink "StackedRowsModel" 134 "StackedRowsModel" "rows" "I" ∈ xt_T := xt_in (List.mem_of_getElem? (i := 1074) (by decide +kernel)) (by decide +kernel)
theorem gf_MO_134 (hx : p.tables.exec = Jvm.exec) (hb : c.code = cc) (hts : ∀ w ∈ xt_T, w.before args s = true) (hown : s.vm.findClass "StackedRowsModel" = some m.cls) (hK : va_K g.1 vwCl (xg_t g) s) (hP : va_P g.1 vwCl ws H) (q0 : Nat) {fs : List Value} (he : ws[q0]? = some (oc_o a 11 fs)) {v : Value} (hv : fs[9]? = some v) (hdg : decode cc pc = .ok (.getfield 134, 3)) (kk : W p l e R s m args below meth c H locs cells slots Q (F0 m (pc + 3) ls (v :: rest))) : W p l e R s m args below meth c H locs cells slots Q (F0 m pc ls (.ref a :: rest)) :=
  va_get (C := "StackedRowsModel") (T := tk_T11) (N := 32) hx hb hts fi_MO hown hK hP q0 he rfl 9 (by decide) (hts _ fl_MO_134) (fun _ h9 => h9) hv hdg kk
theorem fl_MO_137 : Cond.fieldLink "StackedRowsModel" 137 "StackedRowsModel" "columns" "I" ∈ xt_T := xt_in (List.mem_of_getElem? (i := 1075) (by decide +kernel)) (by decide +kernel)
theorem gf_MO_137 (hx : p.tables.exec = Jvm.exec) (hb : c.code = cc) (hts : ∀ w ∈ xt_T, w.before args s = true) (hown : s.vm.findClass "StackedRowsModel" = some m.cls) (hK : va_K g.1 vwCl (xg_t g) s) (hP : va_P g.1 vwCl ws H) (q0 : Nat) {fs : List Value} (he : ws[q0]? = some (oc_o a 11 fs)) {v : Value} (hv : fs[10]? = some v) (hdg : decode cc pc = .ok (.getfield 137, 3)) (kk : W p l e R s m args below meth c H locs cells slots Q (F0 m (pc + 3) ls (v :: rest))) : W p l e R s m args below meth c H locs cells slots Q (F0 m pc ls (.ref a :: rest)) :=
  va_get (C := "StackedRowsModel") (T := tk_T11) (N := 32) hx hb hts fi_MO hown hK hP q0 he rfl 10 (by decide) (hts _ fl_MO_137) (fun _ h9 => h9) hv hdg kk
theorem fl_MO_192 : Cond.fieldLink "StackedRowsModel" 192 "StackedRowsModel" "wrong" "I" ∈ xt_T := xt_in (List.mem_of_getElem? (i := 1079) (by decide +kernel)) (by decide +kernel)
theorem gf_MO_192 (hx : p.tables.exec = Jvm.exec) (hb : c.code = cc) (hts : ∀ w ∈ xt_T, w.before args s = true) (hown : s.vm.findClass "StackedRowsModel" = some m.cls) (hK : va_K g.1 vwCl (xg_t g) s) (hP : va_P g.1 vwCl ws H) (q0 : Nat) {fs : List Value} (he : ws[q0]? = some (oc_o a 11 fs)) {v : Value} (hv : fs[14]? = some v) (hdg : decode cc pc = .ok (.getfield 192, 3)) (kk : W p l e R s m args below meth c H locs cells slots Q (F0 m (pc + 3) ls (v :: rest))) : W p l e R s m args below meth c H locs cells slots Q (F0 m pc ls (.ref a :: rest)) :=
  va_get (C := "StackedRowsModel") (T := tk_T11) (N := 32) hx hb hts fi_MO hown hK hP q0 he rfl 14 (by decide) (hts _ fl_MO_192) (fun _ h9 => h9) hv hdg kk
theorem fl_MO_198 : Cond.fieldLink "StackedRowsModel" 198 "StackedRowsModel" "fault" "I" ∈ xt_T := xt_in (List.mem_of_getElem? (i := 1077) (by decide +kernel)) (by decide +kernel)
theorem gf_MO_198 (hx : p.tables.exec = Jvm.exec) (hb : c.code = cc) (hts : ∀ w ∈ xt_T, w.before args s = true) (hown : s.vm.findClass "StackedRowsModel" = some m.cls) (hK : va_K g.1 vwCl (xg_t g) s) (hP : va_P g.1 vwCl ws H) (q0 : Nat) {fs : List Value} (he : ws[q0]? = some (oc_o a 11 fs)) {v : Value} (hv : fs[12]? = some v) (hdg : decode cc pc = .ok (.getfield 198, 3)) (kk : W p l e R s m args below meth c H locs cells slots Q (F0 m (pc + 3) ls (v :: rest))) : W p l e R s m args below meth c H locs cells slots Q (F0 m pc ls (.ref a :: rest)) :=
  va_get (C := "StackedRowsModel") (T := tk_T11) (N := 32) hx hb hts fi_MO hown hK hP q0 he rfl 12 (by decide) (hts _ fl_MO_198) (fun _ h9 => h9) hv hdg kk
theorem fl_MO_201 : Cond.fieldLink "StackedRowsModel" 201 "StackedRowsModel" "faultAt" "I" ∈ xt_T := xt_in (List.mem_of_getElem? (i := 1078) (by decide +kernel)) (by decide +kernel)
theorem gf_MO_201 (hx : p.tables.exec = Jvm.exec) (hb : c.code = cc) (hts : ∀ w ∈ xt_T, w.before args s = true) (hown : s.vm.findClass "StackedRowsModel" = some m.cls) (hK : va_K g.1 vwCl (xg_t g) s) (hP : va_P g.1 vwCl ws H) (q0 : Nat) {fs : List Value} (he : ws[q0]? = some (oc_o a 11 fs)) {v : Value} (hv : fs[13]? = some v) (hdg : decode cc pc = .ok (.getfield 201, 3)) (kk : W p l e R s m args below meth c H locs cells slots Q (F0 m (pc + 3) ls (v :: rest))) : W p l e R s m args below meth c H locs cells slots Q (F0 m pc ls (.ref a :: rest)) :=
  va_get (C := "StackedRowsModel") (T := tk_T11) (N := 32) hx hb hts fi_MO hown hK hP q0 he rfl 13 (by decide) (hts _ fl_MO_201) (fun _ h9 => h9) hv hdg kk
theorem fl_MO_22 : Cond.fieldLink "StackedRowsModel" 22 "StackedRowsModel" "places" "[I" ∈ xt_T := xt_in (List.mem_of_getElem? (i := 1076) (by decide +kernel)) (by decide +kernel)
theorem gf_MO_22 (hx : p.tables.exec = Jvm.exec) (hb : c.code = cc) (hts : ∀ w ∈ xt_T, w.before args s = true) (hown : s.vm.findClass "StackedRowsModel" = some m.cls) (hK : va_K g.1 vwCl (xg_t g) s) (hP : va_P g.1 vwCl ws H) (q0 : Nat) {fs : List Value} (he : ws[q0]? = some (oc_o a 11 fs)) {v : Value} (hv : fs[11]? = some v) (hdg : decode cc pc = .ok (.getfield 22, 3)) (kk : W p l e R s m args below meth c H locs cells slots Q (F0 m (pc + 3) ls (v :: rest))) : W p l e R s m args below meth c H locs cells slots Q (F0 m pc ls (.ref a :: rest)) :=
  va_get (C := "StackedRowsModel") (T := tk_T11) (N := 32) hx hb hts fi_MO hown hK hP q0 he rfl 11 (by decide) (hts _ fl_MO_22) (fun _ h9 => h9) hv hdg kk
theorem fl_MO_228 : Cond.fieldLink "StackedRowsModel" 228 "StackedRowsModel" "told" "I" ∈ xt_T := xt_in (List.mem_of_getElem? (i := 1080) (by decide +kernel)) (by decide +kernel)
theorem gf_MO_228 (hx : p.tables.exec = Jvm.exec) (hb : c.code = cc) (hts : ∀ w ∈ xt_T, w.before args s = true) (hown : s.vm.findClass "StackedRowsModel" = some m.cls) (hK : va_K g.1 vwCl (xg_t g) s) (hP : va_P g.1 vwCl ws H) (q0 : Nat) {fs : List Value} (he : ws[q0]? = some (oc_o a 11 fs)) {v : Value} (hv : fs[15]? = some v) (hdg : decode cc pc = .ok (.getfield 228, 3)) (kk : W p l e R s m args below meth c H locs cells slots Q (F0 m (pc + 3) ls (v :: rest))) : W p l e R s m args below meth c H locs cells slots Q (F0 m pc ls (.ref a :: rest)) :=
  va_get (C := "StackedRowsModel") (T := tk_T11) (N := 32) hx hb hts fi_MO hown hK hP q0 he rfl 15 (by decide) (hts _ fl_MO_228) (fun _ h9 => h9) hv hdg kk
theorem fl_MO_25 : Cond.fieldLink "StackedRowsModel" 25 "StackedRowsModel" "row" "[I" ∈ xt_T := xt_in (List.mem_of_getElem? (i := 1081) (by decide +kernel)) (by decide +kernel)
theorem gf_MO_25 (hx : p.tables.exec = Jvm.exec) (hb : c.code = cc) (hts : ∀ w ∈ xt_T, w.before args s = true) (hown : s.vm.findClass "StackedRowsModel" = some m.cls) (hK : va_K g.1 vwCl (xg_t g) s) (hP : va_P g.1 vwCl ws H) (q0 : Nat) {fs : List Value} (he : ws[q0]? = some (oc_o a 11 fs)) {v : Value} (hv : fs[16]? = some v) (hdg : decode cc pc = .ok (.getfield 25, 3)) (kk : W p l e R s m args below meth c H locs cells slots Q (F0 m (pc + 3) ls (v :: rest))) : W p l e R s m args below meth c H locs cells slots Q (F0 m pc ls (.ref a :: rest)) :=
  va_get (C := "StackedRowsModel") (T := tk_T11) (N := 32) hx hb hts fi_MO hown hK hP q0 he rfl 16 (by decide) (hts _ fl_MO_25) (fun _ h9 => h9) hv hdg kk
theorem fl_MO_32 : Cond.fieldLink "StackedRowsModel" 32 "StackedRowsModel" "powers" "[I" ∈ xt_T := xt_in (List.mem_of_getElem? (i := 1083) (by decide +kernel)) (by decide +kernel)
theorem gf_MO_32 (hx : p.tables.exec = Jvm.exec) (hb : c.code = cc) (hts : ∀ w ∈ xt_T, w.before args s = true) (hown : s.vm.findClass "StackedRowsModel" = some m.cls) (hK : va_K g.1 vwCl (xg_t g) s) (hP : va_P g.1 vwCl ws H) (q0 : Nat) {fs : List Value} (he : ws[q0]? = some (oc_o a 11 fs)) {v : Value} (hv : fs[18]? = some v) (hdg : decode cc pc = .ok (.getfield 32, 3)) (kk : W p l e R s m args below meth c H locs cells slots Q (F0 m (pc + 3) ls (v :: rest))) : W p l e R s m args below meth c H locs cells slots Q (F0 m pc ls (.ref a :: rest)) :=
  va_get (C := "StackedRowsModel") (T := tk_T11) (N := 32) hx hb hts fi_MO hown hK hP q0 he rfl 18 (by decide) (hts _ fl_MO_32) (fun _ h9 => h9) hv hdg kk
theorem fl_MO_41 : Cond.fieldLink "StackedRowsModel" 41 "StackedRowsModel" "gone" "[I" ∈ xt_T := xt_in (List.mem_of_getElem? (i := 1086) (by decide +kernel)) (by decide +kernel)
theorem gf_MO_41 (hx : p.tables.exec = Jvm.exec) (hb : c.code = cc) (hts : ∀ w ∈ xt_T, w.before args s = true) (hown : s.vm.findClass "StackedRowsModel" = some m.cls) (hK : va_K g.1 vwCl (xg_t g) s) (hP : va_P g.1 vwCl ws H) (q0 : Nat) {fs : List Value} (he : ws[q0]? = some (oc_o a 11 fs)) {v : Value} (hv : fs[21]? = some v) (hdg : decode cc pc = .ok (.getfield 41, 3)) (kk : W p l e R s m args below meth c H locs cells slots Q (F0 m (pc + 3) ls (v :: rest))) : W p l e R s m args below meth c H locs cells slots Q (F0 m pc ls (.ref a :: rest)) :=
  va_get (C := "StackedRowsModel") (T := tk_T11) (N := 32) hx hb hts fi_MO hown hK hP q0 he rfl 21 (by decide) (hts _ fl_MO_41) (fun _ h9 => h9) hv hdg kk
theorem fl_MO_56 : Cond.fieldLink "StackedRowsModel" 56 "StackedRowsModel" "work" "[I" ∈ xt_T := xt_in (List.mem_of_getElem? (i := 1091) (by decide +kernel)) (by decide +kernel)
theorem gf_MO_56 (hx : p.tables.exec = Jvm.exec) (hb : c.code = cc) (hts : ∀ w ∈ xt_T, w.before args s = true) (hown : s.vm.findClass "StackedRowsModel" = some m.cls) (hK : va_K g.1 vwCl (xg_t g) s) (hP : va_P g.1 vwCl ws H) (q0 : Nat) {fs : List Value} (he : ws[q0]? = some (oc_o a 11 fs)) {v : Value} (hv : fs[26]? = some v) (hdg : decode cc pc = .ok (.getfield 56, 3)) (kk : W p l e R s m args below meth c H locs cells slots Q (F0 m (pc + 3) ls (v :: rest))) : W p l e R s m args below meth c H locs cells slots Q (F0 m pc ls (.ref a :: rest)) :=
  va_get (C := "StackedRowsModel") (T := tk_T11) (N := 32) hx hb hts fi_MO hown hK hP q0 he rfl 26 (by decide) (hts _ fl_MO_56) (fun _ h9 => h9) hv hdg kk
theorem fl_MO_68 : Cond.fieldLink "StackedRowsModel" 68 "StackedRowsModel" "thrown" "I" ∈ xt_T := xt_in (List.mem_of_getElem? (i := 1065) (by decide +kernel)) (by decide +kernel)
theorem gf_MO_68 (hx : p.tables.exec = Jvm.exec) (hb : c.code = cc) (hts : ∀ w ∈ xt_T, w.before args s = true) (hown : s.vm.findClass "StackedRowsModel" = some m.cls) (hK : va_K g.1 vwCl (xg_t g) s) (hP : va_P g.1 vwCl ws H) (q0 : Nat) {fs : List Value} (he : ws[q0]? = some (oc_o a 11 fs)) {v : Value} (hv : fs[0]? = some v) (hdg : decode cc pc = .ok (.getfield 68, 3)) (kk : W p l e R s m args below meth c H locs cells slots Q (F0 m (pc + 3) ls (v :: rest))) : W p l e R s m args below meth c H locs cells slots Q (F0 m pc ls (.ref a :: rest)) :=
  va_get (C := "StackedRowsModel") (T := tk_T11) (N := 32) hx hb hts fi_MO hown hK hP q0 he rfl 0 (by decide) (hts _ fl_MO_68) (fun _ h9 => h9) hv hdg kk
theorem fl_MO_7 : Cond.fieldLink "StackedRowsModel" 7 "StackedRowsModel" "tape" "[I" ∈ xt_T := xt_in (List.mem_of_getElem? (i := 1066) (by decide +kernel)) (by decide +kernel)
theorem gf_MO_7 (hx : p.tables.exec = Jvm.exec) (hb : c.code = cc) (hts : ∀ w ∈ xt_T, w.before args s = true) (hown : s.vm.findClass "StackedRowsModel" = some m.cls) (hK : va_K g.1 vwCl (xg_t g) s) (hP : va_P g.1 vwCl ws H) (q0 : Nat) {fs : List Value} (he : ws[q0]? = some (oc_o a 11 fs)) {v : Value} (hv : fs[1]? = some v) (hdg : decode cc pc = .ok (.getfield 7, 3)) (kk : W p l e R s m args below meth c H locs cells slots Q (F0 m (pc + 3) ls (v :: rest))) : W p l e R s m args below meth c H locs cells slots Q (F0 m pc ls (.ref a :: rest)) :=
  va_get (C := "StackedRowsModel") (T := tk_T11) (N := 32) hx hb hts fi_MO hown hK hP q0 he rfl 1 (by decide) (hts _ fl_MO_7) (fun _ h9 => h9) hv hdg kk
theorem fl_MO_72 : Cond.fieldLink "StackedRowsModel" 72 "StackedRowsModel" "tapeSize" "I" ∈ xt_T := xt_in (List.mem_of_getElem? (i := 1067) (by decide +kernel)) (by decide +kernel)
theorem gf_MO_72 (hx : p.tables.exec = Jvm.exec) (hb : c.code = cc) (hts : ∀ w ∈ xt_T, w.before args s = true) (hown : s.vm.findClass "StackedRowsModel" = some m.cls) (hK : va_K g.1 vwCl (xg_t g) s) (hP : va_P g.1 vwCl ws H) (q0 : Nat) {fs : List Value} (he : ws[q0]? = some (oc_o a 11 fs)) {v : Value} (hv : fs[2]? = some v) (hdg : decode cc pc = .ok (.getfield 72, 3)) (kk : W p l e R s m args below meth c H locs cells slots Q (F0 m (pc + 3) ls (v :: rest))) : W p l e R s m args below meth c H locs cells slots Q (F0 m pc ls (.ref a :: rest)) :=
  va_get (C := "StackedRowsModel") (T := tk_T11) (N := 32) hx hb hts fi_MO hown hK hP q0 he rfl 2 (by decide) (hts _ fl_MO_72) (fun _ h9 => h9) hv hdg kk
theorem fl_MO_89 : Cond.fieldLink "StackedRowsModel" 89 "StackedRowsModel" "wordCount" "I" ∈ xt_T := xt_in (List.mem_of_getElem? (i := 1069) (by decide +kernel)) (by decide +kernel)
theorem gf_MO_89 (hx : p.tables.exec = Jvm.exec) (hb : c.code = cc) (hts : ∀ w ∈ xt_T, w.before args s = true) (hown : s.vm.findClass "StackedRowsModel" = some m.cls) (hK : va_K g.1 vwCl (xg_t g) s) (hP : va_P g.1 vwCl ws H) (q0 : Nat) {fs : List Value} (he : ws[q0]? = some (oc_o a 11 fs)) {v : Value} (hv : fs[4]? = some v) (hdg : decode cc pc = .ok (.getfield 89, 3)) (kk : W p l e R s m args below meth c H locs cells slots Q (F0 m (pc + 3) ls (v :: rest))) : W p l e R s m args below meth c H locs cells slots Q (F0 m pc ls (.ref a :: rest)) :=
  va_get (C := "StackedRowsModel") (T := tk_T11) (N := 32) hx hb hts fi_MO hown hK hP q0 he rfl 4 (by decide) (hts _ fl_MO_89) (fun _ h9 => h9) hv hdg kk
theorem fl_RD_35 : Cond.fieldLink "StackedRows$Reader" 35 "StackedRows$Letters" "CAPITALS" "LStackedRows$Letters;" ∈ xt_T := xt_in (List.mem_of_getElem? (i := 276) (by decide +kernel)) (by decide +kernel)
theorem fl_TW_15 : Cond.fieldLink "StackedRows$TextWriter" 15 "StackedRows$Letters" "CAPITALS" "LStackedRows$Letters;" ∈ xt_T := xt_in (List.mem_of_getElem? (i := 147) (by decide +kernel)) (by decide +kernel)
theorem wmS : Cond.static Lib.Math.max.name ∈ xt_T := xt_in (List.mem_of_getElem? (i := 166) (by decide +kernel)) (by decide +kernel)
theorem wmN : Cond.initialized "java/lang/Math" ∈ xt_T := xt_in (List.mem_of_getElem? (i := 79) (by decide +kernel)) (by decide +kernel)
theorem wmC : Cond.code Lib.Math.max.name Lib.Math.max.code 2 (some .int) ∈ xt_T := xt_in (List.mem_of_getElem? (i := 167) (by decide +kernel)) (by decide +kernel)
theorem ml_BN_7 : Cond.methodLink "StackedRows$BigNumber" 7 Lib.Math.max.name ∈ xt_T := xt_in (List.mem_of_getElem? (i := 165) (by decide +kernel)) (by decide +kernel)
theorem mx_BN_7 (hx : p.tables.exec = Jvm.exec) (hb : c.code = cc) (hts : ∀ w ∈ xt_T, w.before args s = true) (hown : s.vm.findClass "StackedRows$BigNumber" = some m.cls) (hml : c.maxLocals = nL) (hsz : ls.size = nL) (hf : 1 ≤ R.frames) (hlo : (rest.map fun v => v.category).sum + 13 ≤ R.locals) (hc : cells ≤ R.cells) (hs : slots ≤ R.slots) {x y : Int32} (hd : decode cc pc = .ok (.invokestatic 7, 3)) (kk : W p l e R s m args below meth c H locs cells slots Q (F0 m (pc + 3) ls (.int (if x < y then y else x) :: rest))) : W p l e R s m args below meth c H locs cells slots Q (F0 m pc ls (.int y :: .int x :: rest)) :=
  va_mmax hx hb (hml.trans hsz.symm) hown (hts _ ml_BN_7) (hts _ wmS) (hts _ wmN) (hts _ wmC) hf hlo hc hs hd kk
theorem cl_RD_19 : Cond.classLink "StackedRows$Reader" 19 "StackedRows$BigNumber" ∈ xt_T := xt_in (List.mem_of_getElem? (i := 274) (by decide +kernel)) (by decide +kernel)
theorem nw_RD_19 (hx : p.tables.exec = Jvm.exec) (hb : c.code = cc) (hts : ∀ w ∈ xt_T, w.before args s = true) (hown : s.vm.findClass "StackedRows$Reader" = some m.cls) (hK : va_K g.1 vwCl (xg_t g) s) (hP : va_P g.1 vwCl ws H) (hD : va_D A ws) (hS : va_S A s.heap H locs) (hA : ∀ q, s.heap.size ≤ q → A q) (hk1 : cells + 1 = k1) (hk2 : slots + 2 = k2) (h3 : k1 ≤ R.cells) (h4 : k2 ≤ R.slots) (hdg : decode cc pc = .ok (.new 19, 3)) (kk : ∀ (q : Nat) (H1 : Heap), va_P g.1 vwCl (ws ++ [oc_o q 1 [.int (nI 0), .null]]) H1 → va_D A (ws ++ [oc_o q 1 [.int (nI 0), .null]]) → va_S A s.heap H1 locs → W p l e R s m args below meth c H1 locs k1 k2 Q (F0 m (pc + 3) ls (.ref q :: rest))) : W p l e R s m args below meth c H locs cells slots Q (F0 m pc ls rest) := by
  subst hk1; subst hk2
  exact va_new (C := "StackedRows$BigNumber") (T := tk_T1) (N := 2) hx hb hts fi_BN tk_y1 tk_o1 hown (hts _ cl_RD_19) (hts _ wk_BN) (hts _ wn_BN) hK hP hD hS hA rfl (fun j hj => by rcases (show j = 0 ∨ j = 1 by omega) with rfl | rfl <;> rfl) h3 h4 hdg kk
theorem cl_SV_21 : Cond.classLink "StackedRows$Solver" 21 "StackedRows$Mender" ∈ xt_T := xt_in (List.mem_of_getElem? (i := 232) (by decide +kernel)) (by decide +kernel)
theorem nw_SV_21 (hx : p.tables.exec = Jvm.exec) (hb : c.code = cc) (hts : ∀ w ∈ xt_T, w.before args s = true) (hown : s.vm.findClass "StackedRows$Solver" = some m.cls) (hK : va_K g.1 vwCl (xg_t g) s) (hP : va_P g.1 vwCl ws H) (hD : va_D A ws) (hS : va_S A s.heap H locs) (hA : ∀ q, s.heap.size ≤ q → A q) (hk1 : cells + 1 = k1) (hk2 : slots + 9 = k2) (h3 : k1 ≤ R.cells) (h4 : k2 ≤ R.slots) (hdg : decode cc pc = .ok (.new 21, 3)) (kk : ∀ (q : Nat) (H1 : Heap), va_P g.1 vwCl (ws ++ [oc_o q 4 [.null, .null, .null, .null, .null, .null, .int (nI 0), .int (nI 0), .int (nI 0)]]) H1 → va_D A (ws ++ [oc_o q 4 [.null, .null, .null, .null, .null, .null, .int (nI 0), .int (nI 0), .int (nI 0)]]) → va_S A s.heap H1 locs → W p l e R s m args below meth c H1 locs k1 k2 Q (F0 m (pc + 3) ls (.ref q :: rest))) : W p l e R s m args below meth c H locs cells slots Q (F0 m pc ls rest) := by
  subst hk1; subst hk2
  exact va_new (C := "StackedRows$Mender") (T := tk_T4) (N := 9) hx hb hts fi_MD tk_y4 tk_o4 hown (hts _ cl_SV_21) (hts _ wk_MD) (hts _ wn_MD) hK hP hD hS hA rfl (fun j hj => by rcases (show j = 0 ∨ j = 1 ∨ j = 2 ∨ j = 3 ∨ j = 4 ∨ j = 5 ∨ j = 6 ∨ j = 7 ∨ j = 8 by omega) with rfl | rfl | rfl | rfl | rfl | rfl | rfl | rfl | rfl <;> rfl) h3 h4 hdg kk
theorem cl_SV_30 : Cond.classLink "StackedRows$Solver" 30 "StackedRows$Tape" ∈ xt_T := xt_in (List.mem_of_getElem? (i := 266) (by decide +kernel)) (by decide +kernel)
theorem nw_SV_30 (hx : p.tables.exec = Jvm.exec) (hb : c.code = cc) (hts : ∀ w ∈ xt_T, w.before args s = true) (hown : s.vm.findClass "StackedRows$Solver" = some m.cls) (hK : va_K g.1 vwCl (xg_t g) s) (hP : va_P g.1 vwCl ws H) (hD : va_D A ws) (hS : va_S A s.heap H locs) (hA : ∀ q, s.heap.size ≤ q → A q) (hk1 : cells + 1 = k1) (hk2 : slots + 2 = k2) (h3 : k1 ≤ R.cells) (h4 : k2 ≤ R.slots) (hdg : decode cc pc = .ok (.new 30, 3)) (kk : ∀ (q : Nat) (H1 : Heap), va_P g.1 vwCl (ws ++ [oc_o q 8 [.null, .int (nI 0)]]) H1 → va_D A (ws ++ [oc_o q 8 [.null, .int (nI 0)]]) → va_S A s.heap H1 locs → W p l e R s m args below meth c H1 locs k1 k2 Q (F0 m (pc + 3) ls (.ref q :: rest))) : W p l e R s m args below meth c H locs cells slots Q (F0 m pc ls rest) := by
  subst hk1; subst hk2
  exact va_new (C := "StackedRows$Tape") (T := tk_T8) (N := 2) hx hb hts fi_TP tk_y8 tk_o8 hown (hts _ cl_SV_30) (hts _ wk_TP) (hts _ wn_TP) hK hP hD hS hA rfl (fun j hj => by rcases (show j = 0 ∨ j = 1 by omega) with rfl | rfl <;> rfl) h3 h4 hdg kk
theorem cl_SV_37 : Cond.classLink "StackedRows$Solver" 37 "StackedRows$Reader" ∈ xt_T := xt_in (List.mem_of_getElem? (i := 268) (by decide +kernel)) (by decide +kernel)
theorem nw_SV_37 (hx : p.tables.exec = Jvm.exec) (hb : c.code = cc) (hts : ∀ w ∈ xt_T, w.before args s = true) (hown : s.vm.findClass "StackedRows$Solver" = some m.cls) (hK : va_K g.1 vwCl (xg_t g) s) (hP : va_P g.1 vwCl ws H) (hD : va_D A ws) (hS : va_S A s.heap H locs) (hA : ∀ q, s.heap.size ≤ q → A q) (hk1 : cells + 1 = k1) (hk2 : slots + 8 = k2) (h3 : k1 ≤ R.cells) (h4 : k2 ≤ R.slots) (hdg : decode cc pc = .ok (.new 37, 3)) (kk : ∀ (q : Nat) (H1 : Heap), va_P g.1 vwCl (ws ++ [oc_o q 5 [.null, .null, .null, .int (nI 0), .int (nI 0), .null, .null, .int (nI 0)]]) H1 → va_D A (ws ++ [oc_o q 5 [.null, .null, .null, .int (nI 0), .int (nI 0), .null, .null, .int (nI 0)]]) → va_S A s.heap H1 locs → W p l e R s m args below meth c H1 locs k1 k2 Q (F0 m (pc + 3) ls (.ref q :: rest))) : W p l e R s m args below meth c H locs cells slots Q (F0 m pc ls rest) := by
  subst hk1; subst hk2
  exact va_new (C := "StackedRows$Reader") (T := tk_T5) (N := 8) hx hb hts fi_RD tk_y5 tk_o5 hown (hts _ cl_SV_37) (hts _ wk_RD) (hts _ wn_RD) hK hP hD hS hA rfl (fun j hj => by rcases (show j = 0 ∨ j = 1 ∨ j = 2 ∨ j = 3 ∨ j = 4 ∨ j = 5 ∨ j = 6 ∨ j = 7 by omega) with rfl | rfl | rfl | rfl | rfl | rfl | rfl | rfl <;> rfl) h3 h4 hdg kk
theorem cl_WR_15 : Cond.classLink "StackedRows$Writer" 15 "StackedRows$Codewords" ∈ xt_T := xt_in (List.mem_of_getElem? (i := 128) (by decide +kernel)) (by decide +kernel)
theorem nw_WR_15 (hx : p.tables.exec = Jvm.exec) (hb : c.code = cc) (hts : ∀ w ∈ xt_T, w.before args s = true) (hown : s.vm.findClass "StackedRows$Writer" = some m.cls) (hK : va_K g.1 vwCl (xg_t g) s) (hP : va_P g.1 vwCl ws H) (hD : va_D A ws) (hS : va_S A s.heap H locs) (hA : ∀ q, s.heap.size ≤ q → A q) (hk1 : cells + 1 = k1) (hk2 : slots + 2 = k2) (h3 : k1 ≤ R.cells) (h4 : k2 ≤ R.slots) (hdg : decode cc pc = .ok (.new 15, 3)) (kk : ∀ (q : Nat) (H1 : Heap), va_P g.1 vwCl (ws ++ [oc_o q 3 [.null, .int (nI 0)]]) H1 → va_D A (ws ++ [oc_o q 3 [.null, .int (nI 0)]]) → va_S A s.heap H1 locs → W p l e R s m args below meth c H1 locs k1 k2 Q (F0 m (pc + 3) ls (.ref q :: rest))) : W p l e R s m args below meth c H locs cells slots Q (F0 m pc ls rest) := by
  subst hk1; subst hk2
  exact va_new (C := "StackedRows$Codewords") (T := tk_T3) (N := 2) hx hb hts fi_CW tk_y3 tk_o3 hown (hts _ cl_WR_15) (hts _ wk_CW) (hts _ wn_CW) hK hP hD hS hA rfl (fun j hj => by rcases (show j = 0 ∨ j = 1 by omega) with rfl | rfl <;> rfl) h3 h4 hdg kk
theorem cl_WR_22 : Cond.classLink "StackedRows$Writer" 22 "StackedRows$TextWriter" ∈ xt_T := xt_in (List.mem_of_getElem? (i := 141) (by decide +kernel)) (by decide +kernel)
theorem nw_WR_22 (hx : p.tables.exec = Jvm.exec) (hb : c.code = cc) (hts : ∀ w ∈ xt_T, w.before args s = true) (hown : s.vm.findClass "StackedRows$Writer" = some m.cls) (hK : va_K g.1 vwCl (xg_t g) s) (hP : va_P g.1 vwCl ws H) (hD : va_D A ws) (hS : va_S A s.heap H locs) (hA : ∀ q, s.heap.size ≤ q → A q) (hk1 : cells + 1 = k1) (hk2 : slots + 3 = k2) (h3 : k1 ≤ R.cells) (h4 : k2 ≤ R.slots) (hdg : decode cc pc = .ok (.new 22, 3)) (kk : ∀ (q : Nat) (H1 : Heap), va_P g.1 vwCl (ws ++ [oc_o q 9 [.null, .null, .int (nI 0)]]) H1 → va_D A (ws ++ [oc_o q 9 [.null, .null, .int (nI 0)]]) → va_S A s.heap H1 locs → W p l e R s m args below meth c H1 locs k1 k2 Q (F0 m (pc + 3) ls (.ref q :: rest))) : W p l e R s m args below meth c H locs cells slots Q (F0 m pc ls rest) := by
  subst hk1; subst hk2
  exact va_new (C := "StackedRows$TextWriter") (T := tk_T9) (N := 3) hx hb hts fi_TW tk_y9 tk_o9 hown (hts _ cl_WR_22) (hts _ wk_TW) (hts _ wn_TW) hK hP hD hS hA rfl (fun j hj => by rcases (show j = 0 ∨ j = 1 ∨ j = 2 by omega) with rfl | rfl | rfl <;> rfl) h3 h4 hdg kk
theorem cl_WR_31 : Cond.classLink "StackedRows$Writer" 31 "StackedRows$BigNumber" ∈ xt_T := xt_in (List.mem_of_getElem? (i := 159) (by decide +kernel)) (by decide +kernel)
theorem nw_WR_31 (hx : p.tables.exec = Jvm.exec) (hb : c.code = cc) (hts : ∀ w ∈ xt_T, w.before args s = true) (hown : s.vm.findClass "StackedRows$Writer" = some m.cls) (hK : va_K g.1 vwCl (xg_t g) s) (hP : va_P g.1 vwCl ws H) (hD : va_D A ws) (hS : va_S A s.heap H locs) (hA : ∀ q, s.heap.size ≤ q → A q) (hk1 : cells + 1 = k1) (hk2 : slots + 2 = k2) (h3 : k1 ≤ R.cells) (h4 : k2 ≤ R.slots) (hdg : decode cc pc = .ok (.new 31, 3)) (kk : ∀ (q : Nat) (H1 : Heap), va_P g.1 vwCl (ws ++ [oc_o q 1 [.int (nI 0), .null]]) H1 → va_D A (ws ++ [oc_o q 1 [.int (nI 0), .null]]) → va_S A s.heap H1 locs → W p l e R s m args below meth c H1 locs k1 k2 Q (F0 m (pc + 3) ls (.ref q :: rest))) : W p l e R s m args below meth c H locs cells slots Q (F0 m pc ls rest) := by
  subst hk1; subst hk2
  exact va_new (C := "StackedRows$BigNumber") (T := tk_T1) (N := 2) hx hb hts fi_BN tk_y1 tk_o1 hown (hts _ cl_WR_31) (hts _ wk_BN) (hts _ wn_BN) hK hP hD hS hA rfl (fun j hj => by rcases (show j = 0 ∨ j = 1 by omega) with rfl | rfl <;> rfl) h3 h4 hdg kk
theorem cl_SR_16 : Cond.classLink "StackedRows" 16 "StackedRows$Writer" ∈ xt_T := xt_in (List.mem_of_getElem? (i := 122) (by decide +kernel)) (by decide +kernel)
theorem nw_SR_16 (hx : p.tables.exec = Jvm.exec) (hb : c.code = cc) (hts : ∀ w ∈ xt_T, w.before args s = true) (hown : s.vm.findClass "StackedRows" = some m.cls) (hK : va_K g.1 vwCl (xg_t g) s) (hP : va_P g.1 vwCl ws H) (hD : va_D A ws) (hS : va_S A s.heap H locs) (hA : ∀ q, s.heap.size ≤ q → A q) (hk1 : cells + 1 = k1) (hk2 : slots + 8 = k2) (h3 : k1 ≤ R.cells) (h4 : k2 ≤ R.slots) (hdg : decode cc pc = .ok (.new 16, 3)) (kk : ∀ (q : Nat) (H1 : Heap), va_P g.1 vwCl (ws ++ [oc_o q 10 [.null, .null, .null, .null, .null, .null, .int (nI 0), .int (nI 0)]]) H1 → va_D A (ws ++ [oc_o q 10 [.null, .null, .null, .null, .null, .null, .int (nI 0), .int (nI 0)]]) → va_S A s.heap H1 locs → W p l e R s m args below meth c H1 locs k1 k2 Q (F0 m (pc + 3) ls (.ref q :: rest))) : W p l e R s m args below meth c H locs cells slots Q (F0 m pc ls rest) := by
  subst hk1; subst hk2
  exact va_new (C := "StackedRows$Writer") (T := tk_T10) (N := 8) hx hb hts fi_WR tk_y10 tk_o10 hown (hts _ cl_SR_16) (hts _ wk_WR) (hts _ wn_WR) hK hP hD hS hA rfl (fun j hj => by rcases (show j = 0 ∨ j = 1 ∨ j = 2 ∨ j = 3 ∨ j = 4 ∨ j = 5 ∨ j = 6 ∨ j = 7 by omega) with rfl | rfl | rfl | rfl | rfl | rfl | rfl | rfl <;> rfl) h3 h4 hdg kk
theorem cl_SR_25 : Cond.classLink "StackedRows" 25 "StackedRows$Checks" ∈ xt_T := xt_in (List.mem_of_getElem? (i := 200) (by decide +kernel)) (by decide +kernel)
theorem nw_SR_25 (hx : p.tables.exec = Jvm.exec) (hb : c.code = cc) (hts : ∀ w ∈ xt_T, w.before args s = true) (hown : s.vm.findClass "StackedRows" = some m.cls) (hK : va_K g.1 vwCl (xg_t g) s) (hP : va_P g.1 vwCl ws H) (hD : va_D A ws) (hS : va_S A s.heap H locs) (hA : ∀ q, s.heap.size ≤ q → A q) (hk1 : cells + 1 = k1) (hk2 : slots + 1 = k2) (h3 : k1 ≤ R.cells) (h4 : k2 ≤ R.slots) (hdg : decode cc pc = .ok (.new 25, 3)) (kk : ∀ (q : Nat) (H1 : Heap), va_P g.1 vwCl (ws ++ [oc_o q 2 [.null]]) H1 → va_D A (ws ++ [oc_o q 2 [.null]]) → va_S A s.heap H1 locs → W p l e R s m args below meth c H1 locs k1 k2 Q (F0 m (pc + 3) ls (.ref q :: rest))) : W p l e R s m args below meth c H locs cells slots Q (F0 m pc ls rest) := by
  subst hk1; subst hk2
  exact va_new (C := "StackedRows$Checks") (T := tk_T2) (N := 1) hx hb hts fi_CK tk_y2 tk_o2 hown (hts _ cl_SR_25) (hts _ wk_CK) (hts _ wn_CK) hK hP hD hS hA rfl (fun j hj => by rcases (show j = 0 by omega) with rfl <;> rfl) h3 h4 hdg kk
theorem cl_SR_32 : Cond.classLink "StackedRows" 32 "StackedRows$Symbol" ∈ xt_T := xt_in (List.mem_of_getElem? (i := 210) (by decide +kernel)) (by decide +kernel)
theorem nw_SR_32 (hx : p.tables.exec = Jvm.exec) (hb : c.code = cc) (hts : ∀ w ∈ xt_T, w.before args s = true) (hown : s.vm.findClass "StackedRows" = some m.cls) (hK : va_K g.1 vwCl (xg_t g) s) (hP : va_P g.1 vwCl ws H) (hD : va_D A ws) (hS : va_S A s.heap H locs) (hA : ∀ q, s.heap.size ≤ q → A q) (hk1 : cells + 1 = k1) (hk2 : slots + 3 = k2) (h3 : k1 ≤ R.cells) (h4 : k2 ≤ R.slots) (hdg : decode cc pc = .ok (.new 32, 3)) (kk : ∀ (q : Nat) (H1 : Heap), va_P g.1 vwCl (ws ++ [oc_o q 7 [.null, .int (nI 0), .int (nI 0)]]) H1 → va_D A (ws ++ [oc_o q 7 [.null, .int (nI 0), .int (nI 0)]]) → va_S A s.heap H1 locs → W p l e R s m args below meth c H1 locs k1 k2 Q (F0 m (pc + 3) ls (.ref q :: rest))) : W p l e R s m args below meth c H locs cells slots Q (F0 m pc ls rest) := by
  subst hk1; subst hk2
  exact va_new (C := "StackedRows$Symbol") (T := tk_T7) (N := 3) hx hb hts fi_SY tk_y7 tk_o7 hown (hts _ cl_SR_32) (hts _ wk_SY) (hts _ wn_SY) hK hP hD hS hA rfl (fun j hj => by rcases (show j = 0 ∨ j = 1 ∨ j = 2 by omega) with rfl | rfl | rfl <;> rfl) h3 h4 hdg kk
theorem cl_SR_43 : Cond.classLink "StackedRows" 43 "StackedRows$Solver" ∈ xt_T := xt_in (List.mem_of_getElem? (i := 226) (by decide +kernel)) (by decide +kernel)
theorem nw_SR_43 (hx : p.tables.exec = Jvm.exec) (hb : c.code = cc) (hts : ∀ w ∈ xt_T, w.before args s = true) (hown : s.vm.findClass "StackedRows" = some m.cls) (hK : va_K g.1 vwCl (xg_t g) s) (hP : va_P g.1 vwCl ws H) (hD : va_D A ws) (hS : va_S A s.heap H locs) (hA : ∀ q, s.heap.size ≤ q → A q) (hk1 : cells + 1 = k1) (hk2 : slots + 9 = k2) (h3 : k1 ≤ R.cells) (h4 : k2 ≤ R.slots) (hdg : decode cc pc = .ok (.new 43, 3)) (kk : ∀ (q : Nat) (H1 : Heap), va_P g.1 vwCl (ws ++ [oc_o q 6 [.null, .null, .null, .null, .null, .null, .int (nI 0), .int (nI 0), .int (nI 0)]]) H1 → va_D A (ws ++ [oc_o q 6 [.null, .null, .null, .null, .null, .null, .int (nI 0), .int (nI 0), .int (nI 0)]]) → va_S A s.heap H1 locs → W p l e R s m args below meth c H1 locs k1 k2 Q (F0 m (pc + 3) ls (.ref q :: rest))) : W p l e R s m args below meth c H locs cells slots Q (F0 m pc ls rest) := by
  subst hk1; subst hk2
  exact va_new (C := "StackedRows$Solver") (T := tk_T6) (N := 9) hx hb hts fi_SV tk_y6 tk_o6 hown (hts _ cl_SR_43) (hts _ wk_SV) (hts _ wn_SV) hK hP hD hS hA rfl (fun j hj => by rcases (show j = 0 ∨ j = 1 ∨ j = 2 ∨ j = 3 ∨ j = 4 ∨ j = 5 ∨ j = 6 ∨ j = 7 ∨ j = 8 by omega) with rfl | rfl | rfl | rfl | rfl | rfl | rfl | rfl | rfl <;> rfl) h3 h4 hdg kk
theorem cl_SR_9 : Cond.classLink "StackedRows" 9 "StackedRows$Tape" ∈ xt_T := xt_in (List.mem_of_getElem? (i := 108) (by decide +kernel)) (by decide +kernel)
theorem nw_SR_9 (hx : p.tables.exec = Jvm.exec) (hb : c.code = cc) (hts : ∀ w ∈ xt_T, w.before args s = true) (hown : s.vm.findClass "StackedRows" = some m.cls) (hK : va_K g.1 vwCl (xg_t g) s) (hP : va_P g.1 vwCl ws H) (hD : va_D A ws) (hS : va_S A s.heap H locs) (hA : ∀ q, s.heap.size ≤ q → A q) (hk1 : cells + 1 = k1) (hk2 : slots + 2 = k2) (h3 : k1 ≤ R.cells) (h4 : k2 ≤ R.slots) (hdg : decode cc pc = .ok (.new 9, 3)) (kk : ∀ (q : Nat) (H1 : Heap), va_P g.1 vwCl (ws ++ [oc_o q 8 [.null, .int (nI 0)]]) H1 → va_D A (ws ++ [oc_o q 8 [.null, .int (nI 0)]]) → va_S A s.heap H1 locs → W p l e R s m args below meth c H1 locs k1 k2 Q (F0 m (pc + 3) ls (.ref q :: rest))) : W p l e R s m args below meth c H locs cells slots Q (F0 m pc ls rest) := by
  subst hk1; subst hk2
  exact va_new (C := "StackedRows$Tape") (T := tk_T8) (N := 2) hx hb hts fi_TP tk_y8 tk_o8 hown (hts _ cl_SR_9) (hts _ wk_TP) (hts _ wn_TP) hK hP hD hS hA rfl (fun j hj => by rcases (show j = 0 ∨ j = 1 by omega) with rfl | rfl <;> rfl) h3 h4 hdg kk
theorem cl_LW_58 : Cond.classLink "StackedRowsLaw" 58 "StackedRowsModel" ∈ xt_T := xt_in (List.mem_of_getElem? (i := 1059) (by decide +kernel)) (by decide +kernel)
theorem nw_LW_58 (hx : p.tables.exec = Jvm.exec) (hb : c.code = cc) (hts : ∀ w ∈ xt_T, w.before args s = true) (hown : s.vm.findClass "StackedRowsLaw" = some m.cls) (hK : va_K g.1 vwCl (xg_t g) s) (hP : va_P g.1 vwCl ws H) (hD : va_D A ws) (hS : va_S A s.heap H locs) (hA : ∀ q, s.heap.size ≤ q → A q) (hk1 : cells + 1 = k1) (hk2 : slots + 32 = k2) (h3 : k1 ≤ R.cells) (h4 : k2 ≤ R.slots) (hdg : decode cc pc = .ok (.new 58, 3)) (kk : ∀ (q : Nat) (H1 : Heap), va_P g.1 vwCl (ws ++ [oc_o q 11 [.int (nI 0), .null, .int (nI 0), .null, .int (nI 0), .int (nI 0), .int (nI 0), .null, .null, .int (nI 0), .int (nI 0), .null, .int (nI 0), .int (nI 0), .int (nI 0), .int (nI 0), .null, .null, .null, .null, .null, .null, .null, .null, .null, .null, .null, .null, .null, .int (nI 0), .null, .int (nI 0)]]) H1 → va_D A (ws ++ [oc_o q 11 [.int (nI 0), .null, .int (nI 0), .null, .int (nI 0), .int (nI 0), .int (nI 0), .null, .null, .int (nI 0), .int (nI 0), .null, .int (nI 0), .int (nI 0), .int (nI 0), .int (nI 0), .null, .null, .null, .null, .null, .null, .null, .null, .null, .null, .null, .null, .null, .int (nI 0), .null, .int (nI 0)]]) → va_S A s.heap H1 locs → W p l e R s m args below meth c H1 locs k1 k2 Q (F0 m (pc + 3) ls (.ref q :: rest))) : W p l e R s m args below meth c H locs cells slots Q (F0 m pc ls rest) := by
  subst hk1; subst hk2
  exact va_new (C := "StackedRowsModel") (T := tk_T11) (N := 32) hx hb hts fi_MO tk_y11 tk_o11 hown (hts _ cl_LW_58) (hts _ wk_MO) (hts _ wn_MO) hK hP hD hS hA rfl (fun j hj => by rcases (show j = 0 ∨ j = 1 ∨ j = 2 ∨ j = 3 ∨ j = 4 ∨ j = 5 ∨ j = 6 ∨ j = 7 ∨ j = 8 ∨ j = 9 ∨ j = 10 ∨ j = 11 ∨ j = 12 ∨ j = 13 ∨ j = 14 ∨ j = 15 ∨ j = 16 ∨ j = 17 ∨ j = 18 ∨ j = 19 ∨ j = 20 ∨ j = 21 ∨ j = 22 ∨ j = 23 ∨ j = 24 ∨ j = 25 ∨ j = 26 ∨ j = 27 ∨ j = 28 ∨ j = 29 ∨ j = 30 ∨ j = 31 by omega) with rfl | rfl | rfl | rfl | rfl | rfl | rfl | rfl | rfl | rfl | rfl | rfl | rfl | rfl | rfl | rfl | rfl | rfl | rfl | rfl | rfl | rfl | rfl | rfl | rfl | rfl | rfl | rfl | rfl | rfl | rfl | rfl <;> rfl) h3 h4 hdg kk
theorem cl_LW_8 : Cond.classLink "StackedRowsLaw" 8 "StackedRows" ∈ xt_T := xt_in (List.mem_of_getElem? (i := 100) (by decide +kernel)) (by decide +kernel)
theorem nw_LW_8 (hx : p.tables.exec = Jvm.exec) (hb : c.code = cc) (hts : ∀ w ∈ xt_T, w.before args s = true) (hown : s.vm.findClass "StackedRowsLaw" = some m.cls) (hK : va_K g.1 vwCl (xg_t g) s) (hP : va_P g.1 vwCl ws H) (hD : va_D A ws) (hS : va_S A s.heap H locs) (hA : ∀ q, s.heap.size ≤ q → A q) (hk1 : cells + 1 = k1) (hk2 : slots + 7 = k2) (h3 : k1 ≤ R.cells) (h4 : k2 ≤ R.slots) (hdg : decode cc pc = .ok (.new 8, 3)) (kk : ∀ (q : Nat) (H1 : Heap), va_P g.1 vwCl (ws ++ [oc_o q 0 [.null, .null, .null, .null, .null, .null, .null]]) H1 → va_D A (ws ++ [oc_o q 0 [.null, .null, .null, .null, .null, .null, .null]]) → va_S A s.heap H1 locs → W p l e R s m args below meth c H1 locs k1 k2 Q (F0 m (pc + 3) ls (.ref q :: rest))) : W p l e R s m args below meth c H locs cells slots Q (F0 m pc ls rest) := by
  subst hk1; subst hk2
  exact va_new (C := "StackedRows") (T := tk_T0) (N := 7) hx hb hts fi_SR tk_y0 tk_o0 hown (hts _ cl_LW_8) (hts _ wk_SR) (hts _ wn_SR) hK hP hD hS hA rfl (fun j hj => by rcases (show j = 0 ∨ j = 1 ∨ j = 2 ∨ j = 3 ∨ j = 4 ∨ j = 5 ∨ j = 6 by omega) with rfl | rfl | rfl | rfl | rfl | rfl | rfl <;> rfl) h3 h4 hdg kk
theorem woi : Cond.instanceMethod Lib.objectInit ∈ xt_T := xt_in (List.mem_of_getElem? (i := 106) (by decide +kernel)) (by decide +kernel)
theorem woc : Cond.code Lib.objectInit ⟨#[0xb1]⟩ 1 none ∈ xt_T := xt_in (List.mem_of_getElem? (i := 107) (by decide +kernel)) (by decide +kernel)
theorem ml_BN_1 : Cond.methodLink "StackedRows$BigNumber" 1 Lib.objectInit ∈ xt_T := xt_in (List.mem_of_getElem? (i := 164) (by decide +kernel)) (by decide +kernel)
theorem ml_CK_3 : Cond.methodLink "StackedRows$Checks" 3 Lib.objectInit ∈ xt_T := xt_in (List.mem_of_getElem? (i := 205) (by decide +kernel)) (by decide +kernel)
theorem ml_CW_3 : Cond.methodLink "StackedRows$Codewords" 3 Lib.objectInit ∈ xt_T := xt_in (List.mem_of_getElem? (i := 133) (by decide +kernel)) (by decide +kernel)
theorem ml_MD_3 : Cond.methodLink "StackedRows$Mender" 3 Lib.objectInit ∈ xt_T := xt_in (List.mem_of_getElem? (i := 237) (by decide +kernel)) (by decide +kernel)
theorem ml_RD_3 : Cond.methodLink "StackedRows$Reader" 3 Lib.objectInit ∈ xt_T := xt_in (List.mem_of_getElem? (i := 273) (by decide +kernel)) (by decide +kernel)
theorem ml_SV_3 : Cond.methodLink "StackedRows$Solver" 3 Lib.objectInit ∈ xt_T := xt_in (List.mem_of_getElem? (i := 231) (by decide +kernel)) (by decide +kernel)
theorem ml_SY_3 : Cond.methodLink "StackedRows$Symbol" 3 Lib.objectInit ∈ xt_T := xt_in (List.mem_of_getElem? (i := 215) (by decide +kernel)) (by decide +kernel)
theorem ml_TP_3 : Cond.methodLink "StackedRows$Tape" 3 Lib.objectInit ∈ xt_T := xt_in (List.mem_of_getElem? (i := 113) (by decide +kernel)) (by decide +kernel)
theorem ml_TW_3 : Cond.methodLink "StackedRows$TextWriter" 3 Lib.objectInit ∈ xt_T := xt_in (List.mem_of_getElem? (i := 146) (by decide +kernel)) (by decide +kernel)
theorem ml_WR_3 : Cond.methodLink "StackedRows$Writer" 3 Lib.objectInit ∈ xt_T := xt_in (List.mem_of_getElem? (i := 127) (by decide +kernel)) (by decide +kernel)
theorem ml_SR_3 : Cond.methodLink "StackedRows" 3 Lib.objectInit ∈ xt_T := xt_in (List.mem_of_getElem? (i := 105) (by decide +kernel)) (by decide +kernel)
theorem ml_MO_1 : Cond.methodLink "StackedRowsModel" 1 Lib.objectInit ∈ xt_T := xt_in (List.mem_of_getElem? (i := 1064) (by decide +kernel)) (by decide +kernel)
theorem fl_BN_13 : Cond.fieldLink "StackedRows$BigNumber" 13 "StackedRows$BigNumber" "base" "I" ∈ xt_T := xt_in (List.mem_of_getElem? (i := 168) (by decide +kernel)) (by decide +kernel)
theorem pf_BN_13 (hin : meth.name = "<init>") (hx : p.tables.exec = Jvm.exec) (hb : c.code = cc) (hts : ∀ w ∈ xt_T, w.before args s = true) (hown : s.vm.findClass "StackedRows$BigNumber" = some m.cls) (hK : va_K g.1 vwCl (xg_t g) s) (hP : va_P g.1 vwCl ws H) (hD : va_D A ws) (hS : va_S A s.heap H locs) (q0 : Nat) {fs : List Value} (he : ws[q0]? = some (oc_o a 1 fs)) {v : Value} (hn : narrow (.int) v = v) (hfit : fits (.int) v = true) (hl : 0 < fs.length) (hdg : decode cc pc = .ok (.putfield 13, 3)) (kk : ∀ (H1 : Heap) (locs1 : List Loc), va_P g.1 vwCl (ws.set q0 (oc_o a 1 (fs.set 0 v))) H1 → va_D A (ws.set q0 (oc_o a 1 (fs.set 0 v))) → va_S A s.heap H1 locs1 → W p l e R s m args below meth c H1 locs1 cells slots Q (F0 m (pc + 3) ls rest)) : W p l e R s m args below meth c H locs cells slots Q (F0 m pc ls (v :: .ref a :: rest)) :=
  va_putF (C := "StackedRows$BigNumber") (T := tk_T1) (N := 2) hx hb hts fi_BN tk_y1 tk_o1 tk_n1 hown hK hP hD hS q0 he rfl 0 (by decide) (hts _ fl_BN_13) (fun _ h9 => h9) rfl hin rfl (by decide +kernel) hn hfit hl hdg kk
theorem fl_BN_19 : Cond.fieldLink "StackedRows$BigNumber" 19 "StackedRows$BigNumber" "cells" "[I" ∈ xt_T := xt_in (List.mem_of_getElem? (i := 169) (by decide +kernel)) (by decide +kernel)
theorem pf_BN_19 (hin : meth.name = "<init>") (hx : p.tables.exec = Jvm.exec) (hb : c.code = cc) (hts : ∀ w ∈ xt_T, w.before args s = true) (hown : s.vm.findClass "StackedRows$BigNumber" = some m.cls) (hK : va_K g.1 vwCl (xg_t g) s) (hP : va_P g.1 vwCl ws H) (hD : va_D A ws) (hS : va_S A s.heap H locs) (q0 : Nat) {fs : List Value} (he : ws[q0]? = some (oc_o a 1 fs)) {v : Value} (hn : narrow (.array .int) v = v) (hfit : fits (.array .int) v = true) (hl : 1 < fs.length) (hdg : decode cc pc = .ok (.putfield 19, 3)) (kk : ∀ (H1 : Heap) (locs1 : List Loc), va_P g.1 vwCl (ws.set q0 (oc_o a 1 (fs.set 1 v))) H1 → va_D A (ws.set q0 (oc_o a 1 (fs.set 1 v))) → va_S A s.heap H1 locs1 → W p l e R s m args below meth c H1 locs1 cells slots Q (F0 m (pc + 3) ls rest)) : W p l e R s m args below meth c H locs cells slots Q (F0 m pc ls (v :: .ref a :: rest)) :=
  va_putF (C := "StackedRows$BigNumber") (T := tk_T1) (N := 2) hx hb hts fi_BN tk_y1 tk_o1 tk_n1 hown hK hP hD hS q0 he rfl 1 (by decide) (hts _ fl_BN_19) (fun _ h9 => h9) rfl hin rfl (by decide +kernel) hn hfit hl hdg kk
theorem pf_CK_9 (hin : meth.name = "<init>") (hx : p.tables.exec = Jvm.exec) (hb : c.code = cc) (hts : ∀ w ∈ xt_T, w.before args s = true) (hown : s.vm.findClass "StackedRows$Checks" = some m.cls) (hK : va_K g.1 vwCl (xg_t g) s) (hP : va_P g.1 vwCl ws H) (hD : va_D A ws) (hS : va_S A s.heap H locs) (q0 : Nat) {fs : List Value} (he : ws[q0]? = some (oc_o a 2 fs)) {v : Value} (hn : narrow (.array .int) v = v) (hfit : fits (.array .int) v = true) (hl : 0 < fs.length) (hdg : decode cc pc = .ok (.putfield 9, 3)) (kk : ∀ (H1 : Heap) (locs1 : List Loc), va_P g.1 vwCl (ws.set q0 (oc_o a 2 (fs.set 0 v))) H1 → va_D A (ws.set q0 (oc_o a 2 (fs.set 0 v))) → va_S A s.heap H1 locs1 → W p l e R s m args below meth c H1 locs1 cells slots Q (F0 m (pc + 3) ls rest)) : W p l e R s m args below meth c H locs cells slots Q (F0 m pc ls (v :: .ref a :: rest)) :=
  va_putF (C := "StackedRows$Checks") (T := tk_T2) (N := 1) hx hb hts fi_CK tk_y2 tk_o2 tk_n2 hown hK hP hD hS q0 he rfl 0 (by decide) (hts _ fl_CK_9) (fun _ h9 => h9) rfl hin rfl (by decide +kernel) hn hfit hl hdg kk
theorem pf_CW_15 (hx : p.tables.exec = Jvm.exec) (hb : c.code = cc) (hts : ∀ w ∈ xt_T, w.before args s = true) (hown : s.vm.findClass "StackedRows$Codewords" = some m.cls) (hK : va_K g.1 vwCl (xg_t g) s) (hP : va_P g.1 vwCl ws H) (hD : va_D A ws) (hS : va_S A s.heap H locs) (q0 : Nat) {fs : List Value} (he : ws[q0]? = some (oc_o a 3 fs)) {v : Value} (hn : narrow (.int) v = v) (hfit : fits (.int) v = true) (hl : 1 < fs.length) (hdg : decode cc pc = .ok (.putfield 15, 3)) (kk : ∀ (H1 : Heap) (locs1 : List Loc), va_P g.1 vwCl (ws.set q0 (oc_o a 3 (fs.set 1 v))) H1 → va_D A (ws.set q0 (oc_o a 3 (fs.set 1 v))) → va_S A s.heap H1 locs1 → W p l e R s m args below meth c H1 locs1 cells slots Q (F0 m (pc + 3) ls rest)) : W p l e R s m args below meth c H locs cells slots Q (F0 m pc ls (v :: .ref a :: rest)) :=
  va_put (C := "StackedRows$Codewords") (T := tk_T3) (N := 2) hx hb hts fi_CW tk_y3 tk_o3 tk_n3 hown hK hP hD hS q0 he rfl 1 (by decide) (hts _ fl_CW_15) (fun _ h9 => h9) rfl (by decide +kernel) hn hfit hl hdg kk
theorem fl_CW_9 : Cond.fieldLink "StackedRows$Codewords" 9 "StackedRows$Codewords" "cells" "[I" ∈ xt_T := xt_in (List.mem_of_getElem? (i := 134) (by decide +kernel)) (by decide +kernel)
theorem pf_CW_9 (hin : meth.name = "<init>") (hx : p.tables.exec = Jvm.exec) (hb : c.code = cc) (hts : ∀ w ∈ xt_T, w.before args s = true) (hown : s.vm.findClass "StackedRows$Codewords" = some m.cls) (hK : va_K g.1 vwCl (xg_t g) s) (hP : va_P g.1 vwCl ws H) (hD : va_D A ws) (hS : va_S A s.heap H locs) (q0 : Nat) {fs : List Value} (he : ws[q0]? = some (oc_o a 3 fs)) {v : Value} (hn : narrow (.array .int) v = v) (hfit : fits (.array .int) v = true) (hl : 0 < fs.length) (hdg : decode cc pc = .ok (.putfield 9, 3)) (kk : ∀ (H1 : Heap) (locs1 : List Loc), va_P g.1 vwCl (ws.set q0 (oc_o a 3 (fs.set 0 v))) H1 → va_D A (ws.set q0 (oc_o a 3 (fs.set 0 v))) → va_S A s.heap H1 locs1 → W p l e R s m args below meth c H1 locs1 cells slots Q (F0 m (pc + 3) ls rest)) : W p l e R s m args below meth c H locs cells slots Q (F0 m pc ls (v :: .ref a :: rest)) :=
  va_putF (C := "StackedRows$Codewords") (T := tk_T3) (N := 2) hx hb hts fi_CW tk_y3 tk_o3 tk_n3 hown hK hP hD hS q0 he rfl 0 (by decide) (hts _ fl_CW_9) (fun _ h9 => h9) rfl hin rfl (by decide +kernel) hn hfit hl hdg kk
theorem fl_MD_15 : Cond.fieldLink "StackedRows$Mender" 15 "StackedRows$Mender" "sums" "[I" ∈ xt_T := xt_in (List.mem_of_getElem? (i := 239) (by decide +kernel)) (by decide +kernel)
theorem pf_MD_15 (hin : meth.name = "<init>") (hx : p.tables.exec = Jvm.exec) (hb : c.code = cc) (hts : ∀ w ∈ xt_T, w.before args s = true) (hown : s.vm.findClass "StackedRows$Mender" = some m.cls) (hK : va_K g.1 vwCl (xg_t g) s) (hP : va_P g.1 vwCl ws H) (hD : va_D A ws) (hS : va_S A s.heap H locs) (q0 : Nat) {fs : List Value} (he : ws[q0]? = some (oc_o a 4 fs)) {v : Value} (hn : narrow (.array .int) v = v) (hfit : fits (.array .int) v = true) (hl : 1 < fs.length) (hdg : decode cc pc = .ok (.putfield 15, 3)) (kk : ∀ (H1 : Heap) (locs1 : List Loc), va_P g.1 vwCl (ws.set q0 (oc_o a 4 (fs.set 1 v))) H1 → va_D A (ws.set q0 (oc_o a 4 (fs.set 1 v))) → va_S A s.heap H1 locs1 → W p l e R s m args below meth c H1 locs1 cells slots Q (F0 m (pc + 3) ls rest)) : W p l e R s m args below meth c H locs cells slots Q (F0 m pc ls (v :: .ref a :: rest)) :=
  va_putF (C := "StackedRows$Mender") (T := tk_T4) (N := 9) hx hb hts fi_MD tk_y4 tk_o4 tk_n4 hown hK hP hD hS q0 he rfl 1 (by decide) (hts _ fl_MD_15) (fun _ h9 => h9) rfl hin rfl (by decide +kernel) hn hfit hl hdg kk
theorem fl_MD_18 : Cond.fieldLink "StackedRows$Mender" 18 "StackedRows$Mender" "locator" "[I" ∈ xt_T := xt_in (List.mem_of_getElem? (i := 240) (by decide +kernel)) (by decide +kernel)
theorem pf_MD_18 (hin : meth.name = "<init>") (hx : p.tables.exec = Jvm.exec) (hb : c.code = cc) (hts : ∀ w ∈ xt_T, w.before args s = true) (hown : s.vm.findClass "StackedRows$Mender" = some m.cls) (hK : va_K g.1 vwCl (xg_t g) s) (hP : va_P g.1 vwCl ws H) (hD : va_D A ws) (hS : va_S A s.heap H locs) (q0 : Nat) {fs : List Value} (he : ws[q0]? = some (oc_o a 4 fs)) {v : Value} (hn : narrow (.array .int) v = v) (hfit : fits (.array .int) v = true) (hl : 2 < fs.length) (hdg : decode cc pc = .ok (.putfield 18, 3)) (kk : ∀ (H1 : Heap) (locs1 : List Loc), va_P g.1 vwCl (ws.set q0 (oc_o a 4 (fs.set 2 v))) H1 → va_D A (ws.set q0 (oc_o a 4 (fs.set 2 v))) → va_S A s.heap H1 locs1 → W p l e R s m args below meth c H1 locs1 cells slots Q (F0 m (pc + 3) ls rest)) : W p l e R s m args below meth c H locs cells slots Q (F0 m pc ls (v :: .ref a :: rest)) :=
  va_putF (C := "StackedRows$Mender") (T := tk_T4) (N := 9) hx hb hts fi_MD tk_y4 tk_o4 tk_n4 hown hK hP hD hS q0 he rfl 2 (by decide) (hts _ fl_MD_18) (fun _ h9 => h9) rfl hin rfl (by decide +kernel) hn hfit hl hdg kk
theorem fl_MD_21 : Cond.fieldLink "StackedRows$Mender" 21 "StackedRows$Mender" "earlier" "[I" ∈ xt_T := xt_in (List.mem_of_getElem? (i := 241) (by decide +kernel)) (by decide +kernel)
theorem pf_MD_21 (hin : meth.name = "<init>") (hx : p.tables.exec = Jvm.exec) (hb : c.code = cc) (hts : ∀ w ∈ xt_T, w.before args s = true) (hown : s.vm.findClass "StackedRows$Mender" = some m.cls) (hK : va_K g.1 vwCl (xg_t g) s) (hP : va_P g.1 vwCl ws H) (hD : va_D A ws) (hS : va_S A s.heap H locs) (q0 : Nat) {fs : List Value} (he : ws[q0]? = some (oc_o a 4 fs)) {v : Value} (hn : narrow (.array .int) v = v) (hfit : fits (.array .int) v = true) (hl : 3 < fs.length) (hdg : decode cc pc = .ok (.putfield 21, 3)) (kk : ∀ (H1 : Heap) (locs1 : List Loc), va_P g.1 vwCl (ws.set q0 (oc_o a 4 (fs.set 3 v))) H1 → va_D A (ws.set q0 (oc_o a 4 (fs.set 3 v))) → va_S A s.heap H1 locs1 → W p l e R s m args below meth c H1 locs1 cells slots Q (F0 m (pc + 3) ls rest)) : W p l e R s m args below meth c H locs cells slots Q (F0 m pc ls (v :: .ref a :: rest)) :=
  va_putF (C := "StackedRows$Mender") (T := tk_T4) (N := 9) hx hb hts fi_MD tk_y4 tk_o4 tk_n4 hown hK hP hD hS q0 he rfl 3 (by decide) (hts _ fl_MD_21) (fun _ h9 => h9) rfl hin rfl (by decide +kernel) hn hfit hl hdg kk
theorem fl_MD_24 : Cond.fieldLink "StackedRows$Mender" 24 "StackedRows$Mender" "kept" "[I" ∈ xt_T := xt_in (List.mem_of_getElem? (i := 242) (by decide +kernel)) (by decide +kernel)
theorem pf_MD_24 (hin : meth.name = "<init>") (hx : p.tables.exec = Jvm.exec) (hb : c.code = cc) (hts : ∀ w ∈ xt_T, w.before args s = true) (hown : s.vm.findClass "StackedRows$Mender" = some m.cls) (hK : va_K g.1 vwCl (xg_t g) s) (hP : va_P g.1 vwCl ws H) (hD : va_D A ws) (hS : va_S A s.heap H locs) (q0 : Nat) {fs : List Value} (he : ws[q0]? = some (oc_o a 4 fs)) {v : Value} (hn : narrow (.array .int) v = v) (hfit : fits (.array .int) v = true) (hl : 4 < fs.length) (hdg : decode cc pc = .ok (.putfield 24, 3)) (kk : ∀ (H1 : Heap) (locs1 : List Loc), va_P g.1 vwCl (ws.set q0 (oc_o a 4 (fs.set 4 v))) H1 → va_D A (ws.set q0 (oc_o a 4 (fs.set 4 v))) → va_S A s.heap H1 locs1 → W p l e R s m args below meth c H1 locs1 cells slots Q (F0 m (pc + 3) ls rest)) : W p l e R s m args below meth c H locs cells slots Q (F0 m pc ls (v :: .ref a :: rest)) :=
  va_putF (C := "StackedRows$Mender") (T := tk_T4) (N := 9) hx hb hts fi_MD tk_y4 tk_o4 tk_n4 hown hK hP hD hS q0 he rfl 4 (by decide) (hts _ fl_MD_24) (fun _ h9 => h9) rfl hin rfl (by decide +kernel) hn hfit hl hdg kk
theorem fl_MD_27 : Cond.fieldLink "StackedRows$Mender" 27 "StackedRows$Mender" "evaluator" "[I" ∈ xt_T := xt_in (List.mem_of_getElem? (i := 243) (by decide +kernel)) (by decide +kernel)
theorem pf_MD_27 (hin : meth.name = "<init>") (hx : p.tables.exec = Jvm.exec) (hb : c.code = cc) (hts : ∀ w ∈ xt_T, w.before args s = true) (hown : s.vm.findClass "StackedRows$Mender" = some m.cls) (hK : va_K g.1 vwCl (xg_t g) s) (hP : va_P g.1 vwCl ws H) (hD : va_D A ws) (hS : va_S A s.heap H locs) (q0 : Nat) {fs : List Value} (he : ws[q0]? = some (oc_o a 4 fs)) {v : Value} (hn : narrow (.array .int) v = v) (hfit : fits (.array .int) v = true) (hl : 5 < fs.length) (hdg : decode cc pc = .ok (.putfield 27, 3)) (kk : ∀ (H1 : Heap) (locs1 : List Loc), va_P g.1 vwCl (ws.set q0 (oc_o a 4 (fs.set 5 v))) H1 → va_D A (ws.set q0 (oc_o a 4 (fs.set 5 v))) → va_S A s.heap H1 locs1 → W p l e R s m args below meth c H1 locs1 cells slots Q (F0 m (pc + 3) ls rest)) : W p l e R s m args below meth c H locs cells slots Q (F0 m pc ls (v :: .ref a :: rest)) :=
  va_putF (C := "StackedRows$Mender") (T := tk_T4) (N := 9) hx hb hts fi_MD tk_y4 tk_o4 tk_n4 hown hK hP hD hS q0 he rfl 5 (by decide) (hts _ fl_MD_27) (fun _ h9 => h9) rfl hin rfl (by decide +kernel) hn hfit hl hdg kk
theorem fl_MD_30 : Cond.fieldLink "StackedRows$Mender" 30 "StackedRows$Mender" "n" "I" ∈ xt_T := xt_in (List.mem_of_getElem? (i := 244) (by decide +kernel)) (by decide +kernel)
theorem pf_MD_30 (hx : p.tables.exec = Jvm.exec) (hb : c.code = cc) (hts : ∀ w ∈ xt_T, w.before args s = true) (hown : s.vm.findClass "StackedRows$Mender" = some m.cls) (hK : va_K g.1 vwCl (xg_t g) s) (hP : va_P g.1 vwCl ws H) (hD : va_D A ws) (hS : va_S A s.heap H locs) (q0 : Nat) {fs : List Value} (he : ws[q0]? = some (oc_o a 4 fs)) {v : Value} (hn : narrow (.int) v = v) (hfit : fits (.int) v = true) (hl : 6 < fs.length) (hdg : decode cc pc = .ok (.putfield 30, 3)) (kk : ∀ (H1 : Heap) (locs1 : List Loc), va_P g.1 vwCl (ws.set q0 (oc_o a 4 (fs.set 6 v))) H1 → va_D A (ws.set q0 (oc_o a 4 (fs.set 6 v))) → va_S A s.heap H1 locs1 → W p l e R s m args below meth c H1 locs1 cells slots Q (F0 m (pc + 3) ls rest)) : W p l e R s m args below meth c H locs cells slots Q (F0 m pc ls (v :: .ref a :: rest)) :=
  va_put (C := "StackedRows$Mender") (T := tk_T4) (N := 9) hx hb hts fi_MD tk_y4 tk_o4 tk_n4 hown hK hP hD hS q0 he rfl 6 (by decide) (hts _ fl_MD_30) (fun _ h9 => h9) rfl (by decide +kernel) hn hfit hl hdg kk
theorem fl_MD_34 : Cond.fieldLink "StackedRows$Mender" 34 "StackedRows$Mender" "k" "I" ∈ xt_T := xt_in (List.mem_of_getElem? (i := 245) (by decide +kernel)) (by decide +kernel)
theorem pf_MD_34 (hx : p.tables.exec = Jvm.exec) (hb : c.code = cc) (hts : ∀ w ∈ xt_T, w.before args s = true) (hown : s.vm.findClass "StackedRows$Mender" = some m.cls) (hK : va_K g.1 vwCl (xg_t g) s) (hP : va_P g.1 vwCl ws H) (hD : va_D A ws) (hS : va_S A s.heap H locs) (q0 : Nat) {fs : List Value} (he : ws[q0]? = some (oc_o a 4 fs)) {v : Value} (hn : narrow (.int) v = v) (hfit : fits (.int) v = true) (hl : 7 < fs.length) (hdg : decode cc pc = .ok (.putfield 34, 3)) (kk : ∀ (H1 : Heap) (locs1 : List Loc), va_P g.1 vwCl (ws.set q0 (oc_o a 4 (fs.set 7 v))) H1 → va_D A (ws.set q0 (oc_o a 4 (fs.set 7 v))) → va_S A s.heap H1 locs1 → W p l e R s m args below meth c H1 locs1 cells slots Q (F0 m (pc + 3) ls rest)) : W p l e R s m args below meth c H locs cells slots Q (F0 m pc ls (v :: .ref a :: rest)) :=
  va_put (C := "StackedRows$Mender") (T := tk_T4) (N := 9) hx hb hts fi_MD tk_y4 tk_o4 tk_n4 hown hK hP hD hS q0 he rfl 7 (by decide) (hts _ fl_MD_34) (fun _ h9 => h9) rfl (by decide +kernel) hn hfit hl hdg kk
theorem fl_MD_37 : Cond.fieldLink "StackedRows$Mender" 37 "StackedRows$Mender" "degree" "I" ∈ xt_T := xt_in (List.mem_of_getElem? (i := 246) (by decide +kernel)) (by decide +kernel)
theorem pf_MD_37 (hx : p.tables.exec = Jvm.exec) (hb : c.code = cc) (hts : ∀ w ∈ xt_T, w.before args s = true) (hown : s.vm.findClass "StackedRows$Mender" = some m.cls) (hK : va_K g.1 vwCl (xg_t g) s) (hP : va_P g.1 vwCl ws H) (hD : va_D A ws) (hS : va_S A s.heap H locs) (q0 : Nat) {fs : List Value} (he : ws[q0]? = some (oc_o a 4 fs)) {v : Value} (hn : narrow (.int) v = v) (hfit : fits (.int) v = true) (hl : 8 < fs.length) (hdg : decode cc pc = .ok (.putfield 37, 3)) (kk : ∀ (H1 : Heap) (locs1 : List Loc), va_P g.1 vwCl (ws.set q0 (oc_o a 4 (fs.set 8 v))) H1 → va_D A (ws.set q0 (oc_o a 4 (fs.set 8 v))) → va_S A s.heap H1 locs1 → W p l e R s m args below meth c H1 locs1 cells slots Q (F0 m (pc + 3) ls rest)) : W p l e R s m args below meth c H locs cells slots Q (F0 m pc ls (v :: .ref a :: rest)) :=
  va_put (C := "StackedRows$Mender") (T := tk_T4) (N := 9) hx hb hts fi_MD tk_y4 tk_o4 tk_n4 hown hK hP hD hS q0 he rfl 8 (by decide) (hts _ fl_MD_37) (fun _ h9 => h9) rfl (by decide +kernel) hn hfit hl hdg kk
theorem fl_MD_9 : Cond.fieldLink "StackedRows$Mender" 9 "StackedRows$Mender" "mended" "[I" ∈ xt_T := xt_in (List.mem_of_getElem? (i := 238) (by decide +kernel)) (by decide +kernel)
theorem pf_MD_9 (hin : meth.name = "<init>") (hx : p.tables.exec = Jvm.exec) (hb : c.code = cc) (hts : ∀ w ∈ xt_T, w.before args s = true) (hown : s.vm.findClass "StackedRows$Mender" = some m.cls) (hK : va_K g.1 vwCl (xg_t g) s) (hP : va_P g.1 vwCl ws H) (hD : va_D A ws) (hS : va_S A s.heap H locs) (q0 : Nat) {fs : List Value} (he : ws[q0]? = some (oc_o a 4 fs)) {v : Value} (hn : narrow (.array .int) v = v) (hfit : fits (.array .int) v = true) (hl : 0 < fs.length) (hdg : decode cc pc = .ok (.putfield 9, 3)) (kk : ∀ (H1 : Heap) (locs1 : List Loc), va_P g.1 vwCl (ws.set q0 (oc_o a 4 (fs.set 0 v))) H1 → va_D A (ws.set q0 (oc_o a 4 (fs.set 0 v))) → va_S A s.heap H1 locs1 → W p l e R s m args below meth c H1 locs1 cells slots Q (F0 m (pc + 3) ls rest)) : W p l e R s m args below meth c H locs cells slots Q (F0 m pc ls (v :: .ref a :: rest)) :=
  va_putF (C := "StackedRows$Mender") (T := tk_T4) (N := 9) hx hb hts fi_MD tk_y4 tk_o4 tk_n4 hown hK hP hD hS q0 he rfl 0 (by decide) (hts _ fl_MD_9) (fun _ h9 => h9) rfl hin rfl (by decide +kernel) hn hfit hl hdg kk
theorem fl_RD_15 : Cond.fieldLink "StackedRows$Reader" 15 "StackedRows$Reader" "out" "LStackedRows$Tape;" ∈ xt_T := xt_in (List.mem_of_getElem? (i := 278) (by decide +kernel)) (by decide +kernel)
theorem pf_RD_15 (hin : meth.name = "<init>") (hx : p.tables.exec = Jvm.exec) (hb : c.code = cc) (hts : ∀ w ∈ xt_T, w.before args s = true) (hown : s.vm.findClass "StackedRows$Reader" = some m.cls) (hK : va_K g.1 vwCl (xg_t g) s) (hP : va_P g.1 vwCl ws H) (hD : va_D A ws) (hS : va_S A s.heap H locs) (q0 : Nat) {fs : List Value} (he : ws[q0]? = some (oc_o a 5 fs)) {v : Value} (hn : narrow (.object "StackedRows$Tape") v = v) (hfit : fits (.object "StackedRows$Tape") v = true) (hl : 1 < fs.length) (hdg : decode cc pc = .ok (.putfield 15, 3)) (kk : ∀ (H1 : Heap) (locs1 : List Loc), va_P g.1 vwCl (ws.set q0 (oc_o a 5 (fs.set 1 v))) H1 → va_D A (ws.set q0 (oc_o a 5 (fs.set 1 v))) → va_S A s.heap H1 locs1 → W p l e R s m args below meth c H1 locs1 cells slots Q (F0 m (pc + 3) ls rest)) : W p l e R s m args below meth c H locs cells slots Q (F0 m pc ls (v :: .ref a :: rest)) :=
  va_putF (C := "StackedRows$Reader") (T := tk_T5) (N := 8) hx hb hts fi_RD tk_y5 tk_o5 tk_n5 hown hK hP hD hS q0 he rfl 1 (by decide) (hts _ fl_RD_15) (fun _ h9 => h9) rfl hin rfl (by decide +kernel) hn hfit hl hdg kk
theorem fl_RD_24 : Cond.fieldLink "StackedRows$Reader" 24 "StackedRows$Reader" "number" "LStackedRows$BigNumber;" ∈ xt_T := xt_in (List.mem_of_getElem? (i := 279) (by decide +kernel)) (by decide +kernel)
theorem pf_RD_24 (hin : meth.name = "<init>") (hx : p.tables.exec = Jvm.exec) (hb : c.code = cc) (hts : ∀ w ∈ xt_T, w.before args s = true) (hown : s.vm.findClass "StackedRows$Reader" = some m.cls) (hK : va_K g.1 vwCl (xg_t g) s) (hP : va_P g.1 vwCl ws H) (hD : va_D A ws) (hS : va_S A s.heap H locs) (q0 : Nat) {fs : List Value} (he : ws[q0]? = some (oc_o a 5 fs)) {v : Value} (hn : narrow (.object "StackedRows$BigNumber") v = v) (hfit : fits (.object "StackedRows$BigNumber") v = true) (hl : 2 < fs.length) (hdg : decode cc pc = .ok (.putfield 24, 3)) (kk : ∀ (H1 : Heap) (locs1 : List Loc), va_P g.1 vwCl (ws.set q0 (oc_o a 5 (fs.set 2 v))) H1 → va_D A (ws.set q0 (oc_o a 5 (fs.set 2 v))) → va_S A s.heap H1 locs1 → W p l e R s m args below meth c H1 locs1 cells slots Q (F0 m (pc + 3) ls rest)) : W p l e R s m args below meth c H locs cells slots Q (F0 m pc ls (v :: .ref a :: rest)) :=
  va_putF (C := "StackedRows$Reader") (T := tk_T5) (N := 8) hx hb hts fi_RD tk_y5 tk_o5 tk_n5 hown hK hP hD hS q0 he rfl 2 (by decide) (hts _ fl_RD_24) (fun _ h9 => h9) rfl hin rfl (by decide +kernel) hn hfit hl hdg kk
theorem fl_RD_28 : Cond.fieldLink "StackedRows$Reader" 28 "StackedRows$Reader" "upTo" "I" ∈ xt_T := xt_in (List.mem_of_getElem? (i := 280) (by decide +kernel)) (by decide +kernel)
theorem pf_RD_28 (hx : p.tables.exec = Jvm.exec) (hb : c.code = cc) (hts : ∀ w ∈ xt_T, w.before args s = true) (hown : s.vm.findClass "StackedRows$Reader" = some m.cls) (hK : va_K g.1 vwCl (xg_t g) s) (hP : va_P g.1 vwCl ws H) (hD : va_D A ws) (hS : va_S A s.heap H locs) (q0 : Nat) {fs : List Value} (he : ws[q0]? = some (oc_o a 5 fs)) {v : Value} (hn : narrow (.int) v = v) (hfit : fits (.int) v = true) (hl : 3 < fs.length) (hdg : decode cc pc = .ok (.putfield 28, 3)) (kk : ∀ (H1 : Heap) (locs1 : List Loc), va_P g.1 vwCl (ws.set q0 (oc_o a 5 (fs.set 3 v))) H1 → va_D A (ws.set q0 (oc_o a 5 (fs.set 3 v))) → va_S A s.heap H1 locs1 → W p l e R s m args below meth c H1 locs1 cells slots Q (F0 m (pc + 3) ls rest)) : W p l e R s m args below meth c H locs cells slots Q (F0 m pc ls (v :: .ref a :: rest)) :=
  va_put (C := "StackedRows$Reader") (T := tk_T5) (N := 8) hx hb hts fi_RD tk_y5 tk_o5 tk_n5 hown hK hP hD hS q0 he rfl 3 (by decide) (hts _ fl_RD_28) (fun _ h9 => h9) rfl (by decide +kernel) hn hfit hl hdg kk
theorem fl_RD_32 : Cond.fieldLink "StackedRows$Reader" 32 "StackedRows$Reader" "way" "I" ∈ xt_T := xt_in (List.mem_of_getElem? (i := 281) (by decide +kernel)) (by decide +kernel)
theorem pf_RD_32 (hx : p.tables.exec = Jvm.exec) (hb : c.code = cc) (hts : ∀ w ∈ xt_T, w.before args s = true) (hown : s.vm.findClass "StackedRows$Reader" = some m.cls) (hK : va_K g.1 vwCl (xg_t g) s) (hP : va_P g.1 vwCl ws H) (hD : va_D A ws) (hS : va_S A s.heap H locs) (q0 : Nat) {fs : List Value} (he : ws[q0]? = some (oc_o a 5 fs)) {v : Value} (hn : narrow (.int) v = v) (hfit : fits (.int) v = true) (hl : 4 < fs.length) (hdg : decode cc pc = .ok (.putfield 32, 3)) (kk : ∀ (H1 : Heap) (locs1 : List Loc), va_P g.1 vwCl (ws.set q0 (oc_o a 5 (fs.set 4 v))) H1 → va_D A (ws.set q0 (oc_o a 5 (fs.set 4 v))) → va_S A s.heap H1 locs1 → W p l e R s m args below meth c H1 locs1 cells slots Q (F0 m (pc + 3) ls rest)) : W p l e R s m args below meth c H locs cells slots Q (F0 m pc ls (v :: .ref a :: rest)) :=
  va_put (C := "StackedRows$Reader") (T := tk_T5) (N := 8) hx hb hts fi_RD tk_y5 tk_o5 tk_n5 hown hK hP hD hS q0 he rfl 4 (by decide) (hts _ fl_RD_32) (fun _ h9 => h9) rfl (by decide +kernel) hn hfit hl hdg kk
theorem fl_RD_41 : Cond.fieldLink "StackedRows$Reader" 41 "StackedRows$Reader" "set" "LStackedRows$Letters;" ∈ xt_T := xt_in (List.mem_of_getElem? (i := 282) (by decide +kernel)) (by decide +kernel)
theorem pf_RD_41 (hx : p.tables.exec = Jvm.exec) (hb : c.code = cc) (hts : ∀ w ∈ xt_T, w.before args s = true) (hown : s.vm.findClass "StackedRows$Reader" = some m.cls) (hK : va_K g.1 vwCl (xg_t g) s) (hP : va_P g.1 vwCl ws H) (hD : va_D A ws) (hS : va_S A s.heap H locs) (q0 : Nat) {fs : List Value} (he : ws[q0]? = some (oc_o a 5 fs)) {v : Value} (hn : narrow (.object "StackedRows$Letters") v = v) (hfit : fits (.object "StackedRows$Letters") v = true) (hl : 5 < fs.length) (hdg : decode cc pc = .ok (.putfield 41, 3)) (kk : ∀ (H1 : Heap) (locs1 : List Loc), va_P g.1 vwCl (ws.set q0 (oc_o a 5 (fs.set 5 v))) H1 → va_D A (ws.set q0 (oc_o a 5 (fs.set 5 v))) → va_S A s.heap H1 locs1 → W p l e R s m args below meth c H1 locs1 cells slots Q (F0 m (pc + 3) ls rest)) : W p l e R s m args below meth c H locs cells slots Q (F0 m pc ls (v :: .ref a :: rest)) :=
  va_put (C := "StackedRows$Reader") (T := tk_T5) (N := 8) hx hb hts fi_RD tk_y5 tk_o5 tk_n5 hown hK hP hD hS q0 he rfl 5 (by decide) (hts _ fl_RD_41) (fun _ h9 => h9) rfl (by decide +kernel) hn hfit hl hdg kk
theorem fl_RD_44 : Cond.fieldLink "StackedRows$Reader" 44 "StackedRows$Reader" "alone" "LStackedRows$Letters;" ∈ xt_T := xt_in (List.mem_of_getElem? (i := 283) (by decide +kernel)) (by decide +kernel)
theorem pf_RD_44 (hx : p.tables.exec = Jvm.exec) (hb : c.code = cc) (hts : ∀ w ∈ xt_T, w.before args s = true) (hown : s.vm.findClass "StackedRows$Reader" = some m.cls) (hK : va_K g.1 vwCl (xg_t g) s) (hP : va_P g.1 vwCl ws H) (hD : va_D A ws) (hS : va_S A s.heap H locs) (q0 : Nat) {fs : List Value} (he : ws[q0]? = some (oc_o a 5 fs)) {v : Value} (hn : narrow (.object "StackedRows$Letters") v = v) (hfit : fits (.object "StackedRows$Letters") v = true) (hl : 6 < fs.length) (hdg : decode cc pc = .ok (.putfield 44, 3)) (kk : ∀ (H1 : Heap) (locs1 : List Loc), va_P g.1 vwCl (ws.set q0 (oc_o a 5 (fs.set 6 v))) H1 → va_D A (ws.set q0 (oc_o a 5 (fs.set 6 v))) → va_S A s.heap H1 locs1 → W p l e R s m args below meth c H1 locs1 cells slots Q (F0 m (pc + 3) ls rest)) : W p l e R s m args below meth c H locs cells slots Q (F0 m pc ls (v :: .ref a :: rest)) :=
  va_put (C := "StackedRows$Reader") (T := tk_T5) (N := 8) hx hb hts fi_RD tk_y5 tk_o5 tk_n5 hown hK hP hD hS q0 he rfl 6 (by decide) (hts _ fl_RD_44) (fun _ h9 => h9) rfl (by decide +kernel) hn hfit hl hdg kk
theorem fl_RD_47 : Cond.fieldLink "StackedRows$Reader" 47 "StackedRows$Reader" "faultAt" "I" ∈ xt_T := xt_in (List.mem_of_getElem? (i := 284) (by decide +kernel)) (by decide +kernel)
theorem pf_RD_47 (hx : p.tables.exec = Jvm.exec) (hb : c.code = cc) (hts : ∀ w ∈ xt_T, w.before args s = true) (hown : s.vm.findClass "StackedRows$Reader" = some m.cls) (hK : va_K g.1 vwCl (xg_t g) s) (hP : va_P g.1 vwCl ws H) (hD : va_D A ws) (hS : va_S A s.heap H locs) (q0 : Nat) {fs : List Value} (he : ws[q0]? = some (oc_o a 5 fs)) {v : Value} (hn : narrow (.int) v = v) (hfit : fits (.int) v = true) (hl : 7 < fs.length) (hdg : decode cc pc = .ok (.putfield 47, 3)) (kk : ∀ (H1 : Heap) (locs1 : List Loc), va_P g.1 vwCl (ws.set q0 (oc_o a 5 (fs.set 7 v))) H1 → va_D A (ws.set q0 (oc_o a 5 (fs.set 7 v))) → va_S A s.heap H1 locs1 → W p l e R s m args below meth c H1 locs1 cells slots Q (F0 m (pc + 3) ls rest)) : W p l e R s m args below meth c H locs cells slots Q (F0 m pc ls (v :: .ref a :: rest)) :=
  va_put (C := "StackedRows$Reader") (T := tk_T5) (N := 8) hx hb hts fi_RD tk_y5 tk_o5 tk_n5 hown hK hP hD hS q0 he rfl 7 (by decide) (hts _ fl_RD_47) (fun _ h9 => h9) rfl (by decide +kernel) hn hfit hl hdg kk
theorem fl_RD_9 : Cond.fieldLink "StackedRows$Reader" 9 "StackedRows$Reader" "row" "[I" ∈ xt_T := xt_in (List.mem_of_getElem? (i := 277) (by decide +kernel)) (by decide +kernel)
theorem pf_RD_9 (hin : meth.name = "<init>") (hx : p.tables.exec = Jvm.exec) (hb : c.code = cc) (hts : ∀ w ∈ xt_T, w.before args s = true) (hown : s.vm.findClass "StackedRows$Reader" = some m.cls) (hK : va_K g.1 vwCl (xg_t g) s) (hP : va_P g.1 vwCl ws H) (hD : va_D A ws) (hS : va_S A s.heap H locs) (q0 : Nat) {fs : List Value} (he : ws[q0]? = some (oc_o a 5 fs)) {v : Value} (hn : narrow (.array .int) v = v) (hfit : fits (.array .int) v = true) (hl : 0 < fs.length) (hdg : decode cc pc = .ok (.putfield 9, 3)) (kk : ∀ (H1 : Heap) (locs1 : List Loc), va_P g.1 vwCl (ws.set q0 (oc_o a 5 (fs.set 0 v))) H1 → va_D A (ws.set q0 (oc_o a 5 (fs.set 0 v))) → va_S A s.heap H1 locs1 → W p l e R s m args below meth c H1 locs1 cells slots Q (F0 m (pc + 3) ls rest)) : W p l e R s m args below meth c H locs cells slots Q (F0 m pc ls (v :: .ref a :: rest)) :=
  va_putF (C := "StackedRows$Reader") (T := tk_T5) (N := 8) hx hb hts fi_RD tk_y5 tk_o5 tk_n5 hown hK hP hD hS q0 he rfl 0 (by decide) (hts _ fl_RD_9) (fun _ h9 => h9) rfl hin rfl (by decide +kernel) hn hfit hl hdg kk
theorem fl_SV_15 : Cond.fieldLink "StackedRows$Solver" 15 "StackedRows$Solver" "told" "[I" ∈ xt_T := xt_in (List.mem_of_getElem? (i := 302) (by decide +kernel)) (by decide +kernel)
theorem pf_SV_15 (hin : meth.name = "<init>") (hx : p.tables.exec = Jvm.exec) (hb : c.code = cc) (hts : ∀ w ∈ xt_T, w.before args s = true) (hown : s.vm.findClass "StackedRows$Solver" = some m.cls) (hK : va_K g.1 vwCl (xg_t g) s) (hP : va_P g.1 vwCl ws H) (hD : va_D A ws) (hS : va_S A s.heap H locs) (q0 : Nat) {fs : List Value} (he : ws[q0]? = some (oc_o a 6 fs)) {v : Value} (hn : narrow (.array .int) v = v) (hfit : fits (.array .int) v = true) (hl : 0 < fs.length) (hdg : decode cc pc = .ok (.putfield 15, 3)) (kk : ∀ (H1 : Heap) (locs1 : List Loc), va_P g.1 vwCl (ws.set q0 (oc_o a 6 (fs.set 0 v))) H1 → va_D A (ws.set q0 (oc_o a 6 (fs.set 0 v))) → va_S A s.heap H1 locs1 → W p l e R s m args below meth c H1 locs1 cells slots Q (F0 m (pc + 3) ls rest)) : W p l e R s m args below meth c H locs cells slots Q (F0 m pc ls (v :: .ref a :: rest)) :=
  va_putF (C := "StackedRows$Solver") (T := tk_T6) (N := 9) hx hb hts fi_SV tk_y6 tk_o6 tk_n6 hown hK hP hD hS q0 he rfl 0 (by decide) (hts _ fl_SV_15) (fun _ h9 => h9) rfl hin rfl (by decide +kernel) hn hfit hl hdg kk
theorem pf_SV_18 (hin : meth.name = "<init>") (hx : p.tables.exec = Jvm.exec) (hb : c.code = cc) (hts : ∀ w ∈ xt_T, w.before args s = true) (hown : s.vm.findClass "StackedRows$Solver" = some m.cls) (hK : va_K g.1 vwCl (xg_t g) s) (hP : va_P g.1 vwCl ws H) (hD : va_D A ws) (hS : va_S A s.heap H locs) (q0 : Nat) {fs : List Value} (he : ws[q0]? = some (oc_o a 6 fs)) {v : Value} (hn : narrow (.array .int) v = v) (hfit : fits (.array .int) v = true) (hl : 2 < fs.length) (hdg : decode cc pc = .ok (.putfield 18, 3)) (kk : ∀ (H1 : Heap) (locs1 : List Loc), va_P g.1 vwCl (ws.set q0 (oc_o a 6 (fs.set 2 v))) H1 → va_D A (ws.set q0 (oc_o a 6 (fs.set 2 v))) → va_S A s.heap H1 locs1 → W p l e R s m args below meth c H1 locs1 cells slots Q (F0 m (pc + 3) ls rest)) : W p l e R s m args below meth c H locs cells slots Q (F0 m pc ls (v :: .ref a :: rest)) :=
  va_putF (C := "StackedRows$Solver") (T := tk_T6) (N := 9) hx hb hts fi_SV tk_y6 tk_o6 tk_n6 hown hK hP hD hS q0 he rfl 2 (by decide) (hts _ fl_SV_18) (fun _ h9 => h9) rfl hin rfl (by decide +kernel) hn hfit hl hdg kk
theorem fl_SV_26 : Cond.fieldLink "StackedRows$Solver" 26 "StackedRows$Solver" "mender" "LStackedRows$Mender;" ∈ xt_T := xt_in (List.mem_of_getElem? (i := 305) (by decide +kernel)) (by decide +kernel)
theorem pf_SV_26 (hin : meth.name = "<init>") (hx : p.tables.exec = Jvm.exec) (hb : c.code = cc) (hts : ∀ w ∈ xt_T, w.before args s = true) (hown : s.vm.findClass "StackedRows$Solver" = some m.cls) (hK : va_K g.1 vwCl (xg_t g) s) (hP : va_P g.1 vwCl ws H) (hD : va_D A ws) (hS : va_S A s.heap H locs) (q0 : Nat) {fs : List Value} (he : ws[q0]? = some (oc_o a 6 fs)) {v : Value} (hn : narrow (.object "StackedRows$Mender") v = v) (hfit : fits (.object "StackedRows$Mender") v = true) (hl : 3 < fs.length) (hdg : decode cc pc = .ok (.putfield 26, 3)) (kk : ∀ (H1 : Heap) (locs1 : List Loc), va_P g.1 vwCl (ws.set q0 (oc_o a 6 (fs.set 3 v))) H1 → va_D A (ws.set q0 (oc_o a 6 (fs.set 3 v))) → va_S A s.heap H1 locs1 → W p l e R s m args below meth c H1 locs1 cells slots Q (F0 m (pc + 3) ls rest)) : W p l e R s m args below meth c H locs cells slots Q (F0 m pc ls (v :: .ref a :: rest)) :=
  va_putF (C := "StackedRows$Solver") (T := tk_T6) (N := 9) hx hb hts fi_SV tk_y6 tk_o6 tk_n6 hown hK hP hD hS q0 he rfl 3 (by decide) (hts _ fl_SV_26) (fun _ h9 => h9) rfl hin rfl (by decide +kernel) hn hfit hl hdg kk
theorem pf_SV_33 (hin : meth.name = "<init>") (hx : p.tables.exec = Jvm.exec) (hb : c.code = cc) (hts : ∀ w ∈ xt_T, w.before args s = true) (hown : s.vm.findClass "StackedRows$Solver" = some m.cls) (hK : va_K g.1 vwCl (xg_t g) s) (hP : va_P g.1 vwCl ws H) (hD : va_D A ws) (hS : va_S A s.heap H locs) (q0 : Nat) {fs : List Value} (he : ws[q0]? = some (oc_o a 6 fs)) {v : Value} (hn : narrow (.object "StackedRows$Tape") v = v) (hfit : fits (.object "StackedRows$Tape") v = true) (hl : 4 < fs.length) (hdg : decode cc pc = .ok (.putfield 33, 3)) (kk : ∀ (H1 : Heap) (locs1 : List Loc), va_P g.1 vwCl (ws.set q0 (oc_o a 6 (fs.set 4 v))) H1 → va_D A (ws.set q0 (oc_o a 6 (fs.set 4 v))) → va_S A s.heap H1 locs1 → W p l e R s m args below meth c H1 locs1 cells slots Q (F0 m (pc + 3) ls rest)) : W p l e R s m args below meth c H locs cells slots Q (F0 m pc ls (v :: .ref a :: rest)) :=
  va_putF (C := "StackedRows$Solver") (T := tk_T6) (N := 9) hx hb hts fi_SV tk_y6 tk_o6 tk_n6 hown hK hP hD hS q0 he rfl 4 (by decide) (hts _ fl_SV_33) (fun _ h9 => h9) rfl hin rfl (by decide +kernel) hn hfit hl hdg kk
theorem fl_SV_42 : Cond.fieldLink "StackedRows$Solver" 42 "StackedRows$Solver" "reader" "LStackedRows$Reader;" ∈ xt_T := xt_in (List.mem_of_getElem? (i := 307) (by decide +kernel)) (by decide +kernel)
theorem pf_SV_42 (hin : meth.name = "<init>") (hx : p.tables.exec = Jvm.exec) (hb : c.code = cc) (hts : ∀ w ∈ xt_T, w.before args s = true) (hown : s.vm.findClass "StackedRows$Solver" = some m.cls) (hK : va_K g.1 vwCl (xg_t g) s) (hP : va_P g.1 vwCl ws H) (hD : va_D A ws) (hS : va_S A s.heap H locs) (q0 : Nat) {fs : List Value} (he : ws[q0]? = some (oc_o a 6 fs)) {v : Value} (hn : narrow (.object "StackedRows$Reader") v = v) (hfit : fits (.object "StackedRows$Reader") v = true) (hl : 5 < fs.length) (hdg : decode cc pc = .ok (.putfield 42, 3)) (kk : ∀ (H1 : Heap) (locs1 : List Loc), va_P g.1 vwCl (ws.set q0 (oc_o a 6 (fs.set 5 v))) H1 → va_D A (ws.set q0 (oc_o a 6 (fs.set 5 v))) → va_S A s.heap H1 locs1 → W p l e R s m args below meth c H1 locs1 cells slots Q (F0 m (pc + 3) ls rest)) : W p l e R s m args below meth c H locs cells slots Q (F0 m pc ls (v :: .ref a :: rest)) :=
  va_putF (C := "StackedRows$Solver") (T := tk_T6) (N := 9) hx hb hts fi_SV tk_y6 tk_o6 tk_n6 hown hK hP hD hS q0 he rfl 5 (by decide) (hts _ fl_SV_42) (fun _ h9 => h9) rfl hin rfl (by decide +kernel) hn hfit hl hdg kk
theorem fl_SV_46 : Cond.fieldLink "StackedRows$Solver" 46 "StackedRows$Solver" "faultAt" "I" ∈ xt_T := xt_in (List.mem_of_getElem? (i := 308) (by decide +kernel)) (by decide +kernel)
theorem pf_SV_46 (hx : p.tables.exec = Jvm.exec) (hb : c.code = cc) (hts : ∀ w ∈ xt_T, w.before args s = true) (hown : s.vm.findClass "StackedRows$Solver" = some m.cls) (hK : va_K g.1 vwCl (xg_t g) s) (hP : va_P g.1 vwCl ws H) (hD : va_D A ws) (hS : va_S A s.heap H locs) (q0 : Nat) {fs : List Value} (he : ws[q0]? = some (oc_o a 6 fs)) {v : Value} (hn : narrow (.int) v = v) (hfit : fits (.int) v = true) (hl : 6 < fs.length) (hdg : decode cc pc = .ok (.putfield 46, 3)) (kk : ∀ (H1 : Heap) (locs1 : List Loc), va_P g.1 vwCl (ws.set q0 (oc_o a 6 (fs.set 6 v))) H1 → va_D A (ws.set q0 (oc_o a 6 (fs.set 6 v))) → va_S A s.heap H1 locs1 → W p l e R s m args below meth c H1 locs1 cells slots Q (F0 m (pc + 3) ls rest)) : W p l e R s m args below meth c H locs cells slots Q (F0 m pc ls (v :: .ref a :: rest)) :=
  va_put (C := "StackedRows$Solver") (T := tk_T6) (N := 9) hx hb hts fi_SV tk_y6 tk_o6 tk_n6 hown hK hP hD hS q0 he rfl 6 (by decide) (hts _ fl_SV_46) (fun _ h9 => h9) rfl (by decide +kernel) hn hfit hl hdg kk
theorem fl_SV_50 : Cond.fieldLink "StackedRows$Solver" 50 "StackedRows$Solver" "wrong" "I" ∈ xt_T := xt_in (List.mem_of_getElem? (i := 309) (by decide +kernel)) (by decide +kernel)
theorem pf_SV_50 (hx : p.tables.exec = Jvm.exec) (hb : c.code = cc) (hts : ∀ w ∈ xt_T, w.before args s = true) (hown : s.vm.findClass "StackedRows$Solver" = some m.cls) (hK : va_K g.1 vwCl (xg_t g) s) (hP : va_P g.1 vwCl ws H) (hD : va_D A ws) (hS : va_S A s.heap H locs) (q0 : Nat) {fs : List Value} (he : ws[q0]? = some (oc_o a 6 fs)) {v : Value} (hn : narrow (.int) v = v) (hfit : fits (.int) v = true) (hl : 7 < fs.length) (hdg : decode cc pc = .ok (.putfield 50, 3)) (kk : ∀ (H1 : Heap) (locs1 : List Loc), va_P g.1 vwCl (ws.set q0 (oc_o a 6 (fs.set 7 v))) H1 → va_D A (ws.set q0 (oc_o a 6 (fs.set 7 v))) → va_S A s.heap H1 locs1 → W p l e R s m args below meth c H1 locs1 cells slots Q (F0 m (pc + 3) ls rest)) : W p l e R s m args below meth c H locs cells slots Q (F0 m pc ls (v :: .ref a :: rest)) :=
  va_put (C := "StackedRows$Solver") (T := tk_T6) (N := 9) hx hb hts fi_SV tk_y6 tk_o6 tk_n6 hown hK hP hD hS q0 he rfl 7 (by decide) (hts _ fl_SV_50) (fun _ h9 => h9) rfl (by decide +kernel) hn hfit hl hdg kk
theorem fl_SV_53 : Cond.fieldLink "StackedRows$Solver" 53 "StackedRows$Solver" "level" "I" ∈ xt_T := xt_in (List.mem_of_getElem? (i := 310) (by decide +kernel)) (by decide +kernel)
theorem pf_SV_53 (hx : p.tables.exec = Jvm.exec) (hb : c.code = cc) (hts : ∀ w ∈ xt_T, w.before args s = true) (hown : s.vm.findClass "StackedRows$Solver" = some m.cls) (hK : va_K g.1 vwCl (xg_t g) s) (hP : va_P g.1 vwCl ws H) (hD : va_D A ws) (hS : va_S A s.heap H locs) (q0 : Nat) {fs : List Value} (he : ws[q0]? = some (oc_o a 6 fs)) {v : Value} (hn : narrow (.int) v = v) (hfit : fits (.int) v = true) (hl : 8 < fs.length) (hdg : decode cc pc = .ok (.putfield 53, 3)) (kk : ∀ (H1 : Heap) (locs1 : List Loc), va_P g.1 vwCl (ws.set q0 (oc_o a 6 (fs.set 8 v))) H1 → va_D A (ws.set q0 (oc_o a 6 (fs.set 8 v))) → va_S A s.heap H1 locs1 → W p l e R s m args below meth c H1 locs1 cells slots Q (F0 m (pc + 3) ls rest)) : W p l e R s m args below meth c H locs cells slots Q (F0 m pc ls (v :: .ref a :: rest)) :=
  va_put (C := "StackedRows$Solver") (T := tk_T6) (N := 9) hx hb hts fi_SV tk_y6 tk_o6 tk_n6 hown hK hP hD hS q0 he rfl 8 (by decide) (hts _ fl_SV_53) (fun _ h9 => h9) rfl (by decide +kernel) hn hfit hl hdg kk
theorem fl_SV_9 : Cond.fieldLink "StackedRows$Solver" 9 "StackedRows$Solver" "row" "[I" ∈ xt_T := xt_in (List.mem_of_getElem? (i := 303) (by decide +kernel)) (by decide +kernel)
theorem pf_SV_9 (hin : meth.name = "<init>") (hx : p.tables.exec = Jvm.exec) (hb : c.code = cc) (hts : ∀ w ∈ xt_T, w.before args s = true) (hown : s.vm.findClass "StackedRows$Solver" = some m.cls) (hK : va_K g.1 vwCl (xg_t g) s) (hP : va_P g.1 vwCl ws H) (hD : va_D A ws) (hS : va_S A s.heap H locs) (q0 : Nat) {fs : List Value} (he : ws[q0]? = some (oc_o a 6 fs)) {v : Value} (hn : narrow (.array .int) v = v) (hfit : fits (.array .int) v = true) (hl : 1 < fs.length) (hdg : decode cc pc = .ok (.putfield 9, 3)) (kk : ∀ (H1 : Heap) (locs1 : List Loc), va_P g.1 vwCl (ws.set q0 (oc_o a 6 (fs.set 1 v))) H1 → va_D A (ws.set q0 (oc_o a 6 (fs.set 1 v))) → va_S A s.heap H1 locs1 → W p l e R s m args below meth c H1 locs1 cells slots Q (F0 m (pc + 3) ls rest)) : W p l e R s m args below meth c H locs cells slots Q (F0 m pc ls (v :: .ref a :: rest)) :=
  va_putF (C := "StackedRows$Solver") (T := tk_T6) (N := 9) hx hb hts fi_SV tk_y6 tk_o6 tk_n6 hown hK hP hD hS q0 he rfl 1 (by decide) (hts _ fl_SV_9) (fun _ h9 => h9) rfl hin rfl (by decide +kernel) hn hfit hl hdg kk
theorem pf_SY_15 (hx : p.tables.exec = Jvm.exec) (hb : c.code = cc) (hts : ∀ w ∈ xt_T, w.before args s = true) (hown : s.vm.findClass "StackedRows$Symbol" = some m.cls) (hK : va_K g.1 vwCl (xg_t g) s) (hP : va_P g.1 vwCl ws H) (hD : va_D A ws) (hS : va_S A s.heap H locs) (q0 : Nat) {fs : List Value} (he : ws[q0]? = some (oc_o a 7 fs)) {v : Value} (hn : narrow (.int) v = v) (hfit : fits (.int) v = true) (hl : 1 < fs.length) (hdg : decode cc pc = .ok (.putfield 15, 3)) (kk : ∀ (H1 : Heap) (locs1 : List Loc), va_P g.1 vwCl (ws.set q0 (oc_o a 7 (fs.set 1 v))) H1 → va_D A (ws.set q0 (oc_o a 7 (fs.set 1 v))) → va_S A s.heap H1 locs1 → W p l e R s m args below meth c H1 locs1 cells slots Q (F0 m (pc + 3) ls rest)) : W p l e R s m args below meth c H locs cells slots Q (F0 m pc ls (v :: .ref a :: rest)) :=
  va_put (C := "StackedRows$Symbol") (T := tk_T7) (N := 3) hx hb hts fi_SY tk_y7 tk_o7 tk_n7 hown hK hP hD hS q0 he rfl 1 (by decide) (hts _ fl_SY_15) (fun _ h9 => h9) rfl (by decide +kernel) hn hfit hl hdg kk
theorem pf_SY_19 (hx : p.tables.exec = Jvm.exec) (hb : c.code = cc) (hts : ∀ w ∈ xt_T, w.before args s = true) (hown : s.vm.findClass "StackedRows$Symbol" = some m.cls) (hK : va_K g.1 vwCl (xg_t g) s) (hP : va_P g.1 vwCl ws H) (hD : va_D A ws) (hS : va_S A s.heap H locs) (q0 : Nat) {fs : List Value} (he : ws[q0]? = some (oc_o a 7 fs)) {v : Value} (hn : narrow (.int) v = v) (hfit : fits (.int) v = true) (hl : 2 < fs.length) (hdg : decode cc pc = .ok (.putfield 19, 3)) (kk : ∀ (H1 : Heap) (locs1 : List Loc), va_P g.1 vwCl (ws.set q0 (oc_o a 7 (fs.set 2 v))) H1 → va_D A (ws.set q0 (oc_o a 7 (fs.set 2 v))) → va_S A s.heap H1 locs1 → W p l e R s m args below meth c H1 locs1 cells slots Q (F0 m (pc + 3) ls rest)) : W p l e R s m args below meth c H locs cells slots Q (F0 m pc ls (v :: .ref a :: rest)) :=
  va_put (C := "StackedRows$Symbol") (T := tk_T7) (N := 3) hx hb hts fi_SY tk_y7 tk_o7 tk_n7 hown hK hP hD hS q0 he rfl 2 (by decide) (hts _ fl_SY_19) (fun _ h9 => h9) rfl (by decide +kernel) hn hfit hl hdg kk
theorem pf_SY_9 (hin : meth.name = "<init>") (hx : p.tables.exec = Jvm.exec) (hb : c.code = cc) (hts : ∀ w ∈ xt_T, w.before args s = true) (hown : s.vm.findClass "StackedRows$Symbol" = some m.cls) (hK : va_K g.1 vwCl (xg_t g) s) (hP : va_P g.1 vwCl ws H) (hD : va_D A ws) (hS : va_S A s.heap H locs) (q0 : Nat) {fs : List Value} (he : ws[q0]? = some (oc_o a 7 fs)) {v : Value} (hn : narrow (.array .int) v = v) (hfit : fits (.array .int) v = true) (hl : 0 < fs.length) (hdg : decode cc pc = .ok (.putfield 9, 3)) (kk : ∀ (H1 : Heap) (locs1 : List Loc), va_P g.1 vwCl (ws.set q0 (oc_o a 7 (fs.set 0 v))) H1 → va_D A (ws.set q0 (oc_o a 7 (fs.set 0 v))) → va_S A s.heap H1 locs1 → W p l e R s m args below meth c H1 locs1 cells slots Q (F0 m (pc + 3) ls rest)) : W p l e R s m args below meth c H locs cells slots Q (F0 m pc ls (v :: .ref a :: rest)) :=
  va_putF (C := "StackedRows$Symbol") (T := tk_T7) (N := 3) hx hb hts fi_SY tk_y7 tk_o7 tk_n7 hown hK hP hD hS q0 he rfl 0 (by decide) (hts _ fl_SY_9) (fun _ h9 => h9) rfl hin rfl (by decide +kernel) hn hfit hl hdg kk
theorem pf_TP_15 (hx : p.tables.exec = Jvm.exec) (hb : c.code = cc) (hts : ∀ w ∈ xt_T, w.before args s = true) (hown : s.vm.findClass "StackedRows$Tape" = some m.cls) (hK : va_K g.1 vwCl (xg_t g) s) (hP : va_P g.1 vwCl ws H) (hD : va_D A ws) (hS : va_S A s.heap H locs) (q0 : Nat) {fs : List Value} (he : ws[q0]? = some (oc_o a 8 fs)) {v : Value} (hn : narrow (.int) v = v) (hfit : fits (.int) v = true) (hl : 1 < fs.length) (hdg : decode cc pc = .ok (.putfield 15, 3)) (kk : ∀ (H1 : Heap) (locs1 : List Loc), va_P g.1 vwCl (ws.set q0 (oc_o a 8 (fs.set 1 v))) H1 → va_D A (ws.set q0 (oc_o a 8 (fs.set 1 v))) → va_S A s.heap H1 locs1 → W p l e R s m args below meth c H1 locs1 cells slots Q (F0 m (pc + 3) ls rest)) : W p l e R s m args below meth c H locs cells slots Q (F0 m pc ls (v :: .ref a :: rest)) :=
  va_put (C := "StackedRows$Tape") (T := tk_T8) (N := 2) hx hb hts fi_TP tk_y8 tk_o8 tk_n8 hown hK hP hD hS q0 he rfl 1 (by decide) (hts _ fl_TP_15) (fun _ h9 => h9) rfl (by decide +kernel) hn hfit hl hdg kk
theorem pf_TP_9 (hin : meth.name = "<init>") (hx : p.tables.exec = Jvm.exec) (hb : c.code = cc) (hts : ∀ w ∈ xt_T, w.before args s = true) (hown : s.vm.findClass "StackedRows$Tape" = some m.cls) (hK : va_K g.1 vwCl (xg_t g) s) (hP : va_P g.1 vwCl ws H) (hD : va_D A ws) (hS : va_S A s.heap H locs) (q0 : Nat) {fs : List Value} (he : ws[q0]? = some (oc_o a 8 fs)) {v : Value} (hn : narrow (.array .int) v = v) (hfit : fits (.array .int) v = true) (hl : 0 < fs.length) (hdg : decode cc pc = .ok (.putfield 9, 3)) (kk : ∀ (H1 : Heap) (locs1 : List Loc), va_P g.1 vwCl (ws.set q0 (oc_o a 8 (fs.set 0 v))) H1 → va_D A (ws.set q0 (oc_o a 8 (fs.set 0 v))) → va_S A s.heap H1 locs1 → W p l e R s m args below meth c H1 locs1 cells slots Q (F0 m (pc + 3) ls rest)) : W p l e R s m args below meth c H locs cells slots Q (F0 m pc ls (v :: .ref a :: rest)) :=
  va_putF (C := "StackedRows$Tape") (T := tk_T8) (N := 2) hx hb hts fi_TP tk_y8 tk_o8 tk_n8 hown hK hP hD hS q0 he rfl 0 (by decide) (hts _ fl_TP_9) (fun _ h9 => h9) rfl hin rfl (by decide +kernel) hn hfit hl hdg kk
theorem fl_TW_21 : Cond.fieldLink "StackedRows$TextWriter" 21 "StackedRows$TextWriter" "set" "LStackedRows$Letters;" ∈ xt_T := xt_in (List.mem_of_getElem? (i := 150) (by decide +kernel)) (by decide +kernel)
theorem pf_TW_21 (hx : p.tables.exec = Jvm.exec) (hb : c.code = cc) (hts : ∀ w ∈ xt_T, w.before args s = true) (hown : s.vm.findClass "StackedRows$TextWriter" = some m.cls) (hK : va_K g.1 vwCl (xg_t g) s) (hP : va_P g.1 vwCl ws H) (hD : va_D A ws) (hS : va_S A s.heap H locs) (q0 : Nat) {fs : List Value} (he : ws[q0]? = some (oc_o a 9 fs)) {v : Value} (hn : narrow (.object "StackedRows$Letters") v = v) (hfit : fits (.object "StackedRows$Letters") v = true) (hl : 1 < fs.length) (hdg : decode cc pc = .ok (.putfield 21, 3)) (kk : ∀ (H1 : Heap) (locs1 : List Loc), va_P g.1 vwCl (ws.set q0 (oc_o a 9 (fs.set 1 v))) H1 → va_D A (ws.set q0 (oc_o a 9 (fs.set 1 v))) → va_S A s.heap H1 locs1 → W p l e R s m args below meth c H1 locs1 cells slots Q (F0 m (pc + 3) ls rest)) : W p l e R s m args below meth c H locs cells slots Q (F0 m pc ls (v :: .ref a :: rest)) :=
  va_put (C := "StackedRows$TextWriter") (T := tk_T9) (N := 3) hx hb hts fi_TW tk_y9 tk_o9 tk_n9 hown hK hP hD hS q0 he rfl 1 (by decide) (hts _ fl_TW_21) (fun _ h9 => h9) rfl (by decide +kernel) hn hfit hl hdg kk
theorem fl_TW_24 : Cond.fieldLink "StackedRows$TextWriter" 24 "StackedRows$TextWriter" "half" "I" ∈ xt_T := xt_in (List.mem_of_getElem? (i := 151) (by decide +kernel)) (by decide +kernel)
theorem pf_TW_24 (hx : p.tables.exec = Jvm.exec) (hb : c.code = cc) (hts : ∀ w ∈ xt_T, w.before args s = true) (hown : s.vm.findClass "StackedRows$TextWriter" = some m.cls) (hK : va_K g.1 vwCl (xg_t g) s) (hP : va_P g.1 vwCl ws H) (hD : va_D A ws) (hS : va_S A s.heap H locs) (q0 : Nat) {fs : List Value} (he : ws[q0]? = some (oc_o a 9 fs)) {v : Value} (hn : narrow (.int) v = v) (hfit : fits (.int) v = true) (hl : 2 < fs.length) (hdg : decode cc pc = .ok (.putfield 24, 3)) (kk : ∀ (H1 : Heap) (locs1 : List Loc), va_P g.1 vwCl (ws.set q0 (oc_o a 9 (fs.set 2 v))) H1 → va_D A (ws.set q0 (oc_o a 9 (fs.set 2 v))) → va_S A s.heap H1 locs1 → W p l e R s m args below meth c H1 locs1 cells slots Q (F0 m (pc + 3) ls rest)) : W p l e R s m args below meth c H locs cells slots Q (F0 m pc ls (v :: .ref a :: rest)) :=
  va_put (C := "StackedRows$TextWriter") (T := tk_T9) (N := 3) hx hb hts fi_TW tk_y9 tk_o9 tk_n9 hown hK hP hD hS q0 he rfl 2 (by decide) (hts _ fl_TW_24) (fun _ h9 => h9) rfl (by decide +kernel) hn hfit hl hdg kk
theorem fl_TW_9 : Cond.fieldLink "StackedRows$TextWriter" 9 "StackedRows$TextWriter" "out" "LStackedRows$Codewords;" ∈ xt_T := xt_in (List.mem_of_getElem? (i := 149) (by decide +kernel)) (by decide +kernel)
theorem pf_TW_9 (hin : meth.name = "<init>") (hx : p.tables.exec = Jvm.exec) (hb : c.code = cc) (hts : ∀ w ∈ xt_T, w.before args s = true) (hown : s.vm.findClass "StackedRows$TextWriter" = some m.cls) (hK : va_K g.1 vwCl (xg_t g) s) (hP : va_P g.1 vwCl ws H) (hD : va_D A ws) (hS : va_S A s.heap H locs) (q0 : Nat) {fs : List Value} (he : ws[q0]? = some (oc_o a 9 fs)) {v : Value} (hn : narrow (.object "StackedRows$Codewords") v = v) (hfit : fits (.object "StackedRows$Codewords") v = true) (hl : 0 < fs.length) (hdg : decode cc pc = .ok (.putfield 9, 3)) (kk : ∀ (H1 : Heap) (locs1 : List Loc), va_P g.1 vwCl (ws.set q0 (oc_o a 9 (fs.set 0 v))) H1 → va_D A (ws.set q0 (oc_o a 9 (fs.set 0 v))) → va_S A s.heap H1 locs1 → W p l e R s m args below meth c H1 locs1 cells slots Q (F0 m (pc + 3) ls rest)) : W p l e R s m args below meth c H locs cells slots Q (F0 m pc ls (v :: .ref a :: rest)) :=
  va_putF (C := "StackedRows$TextWriter") (T := tk_T9) (N := 3) hx hb hts fi_TW tk_y9 tk_o9 tk_n9 hown hK hP hD hS q0 he rfl 0 (by decide) (hts _ fl_TW_9) (fun _ h9 => h9) rfl hin rfl (by decide +kernel) hn hfit hl hdg kk
theorem pf_WR_18 (hin : meth.name = "<init>") (hx : p.tables.exec = Jvm.exec) (hb : c.code = cc) (hts : ∀ w ∈ xt_T, w.before args s = true) (hown : s.vm.findClass "StackedRows$Writer" = some m.cls) (hK : va_K g.1 vwCl (xg_t g) s) (hP : va_P g.1 vwCl ws H) (hD : va_D A ws) (hS : va_S A s.heap H locs) (q0 : Nat) {fs : List Value} (he : ws[q0]? = some (oc_o a 10 fs)) {v : Value} (hn : narrow (.object "StackedRows$Codewords") v = v) (hfit : fits (.object "StackedRows$Codewords") v = true) (hl : 1 < fs.length) (hdg : decode cc pc = .ok (.putfield 18, 3)) (kk : ∀ (H1 : Heap) (locs1 : List Loc), va_P g.1 vwCl (ws.set q0 (oc_o a 10 (fs.set 1 v))) H1 → va_D A (ws.set q0 (oc_o a 10 (fs.set 1 v))) → va_S A s.heap H1 locs1 → W p l e R s m args below meth c H1 locs1 cells slots Q (F0 m (pc + 3) ls rest)) : W p l e R s m args below meth c H locs cells slots Q (F0 m pc ls (v :: .ref a :: rest)) :=
  va_putF (C := "StackedRows$Writer") (T := tk_T10) (N := 8) hx hb hts fi_WR tk_y10 tk_o10 tk_n10 hown hK hP hD hS q0 he rfl 1 (by decide) (hts _ fl_WR_18) (fun _ h9 => h9) rfl hin rfl (by decide +kernel) hn hfit hl hdg kk
theorem pf_WR_27 (hin : meth.name = "<init>") (hx : p.tables.exec = Jvm.exec) (hb : c.code = cc) (hts : ∀ w ∈ xt_T, w.before args s = true) (hown : s.vm.findClass "StackedRows$Writer" = some m.cls) (hK : va_K g.1 vwCl (xg_t g) s) (hP : va_P g.1 vwCl ws H) (hD : va_D A ws) (hS : va_S A s.heap H locs) (q0 : Nat) {fs : List Value} (he : ws[q0]? = some (oc_o a 10 fs)) {v : Value} (hn : narrow (.object "StackedRows$TextWriter") v = v) (hfit : fits (.object "StackedRows$TextWriter") v = true) (hl : 2 < fs.length) (hdg : decode cc pc = .ok (.putfield 27, 3)) (kk : ∀ (H1 : Heap) (locs1 : List Loc), va_P g.1 vwCl (ws.set q0 (oc_o a 10 (fs.set 2 v))) H1 → va_D A (ws.set q0 (oc_o a 10 (fs.set 2 v))) → va_S A s.heap H1 locs1 → W p l e R s m args below meth c H1 locs1 cells slots Q (F0 m (pc + 3) ls rest)) : W p l e R s m args below meth c H locs cells slots Q (F0 m pc ls (v :: .ref a :: rest)) :=
  va_putF (C := "StackedRows$Writer") (T := tk_T10) (N := 8) hx hb hts fi_WR tk_y10 tk_o10 tk_n10 hown hK hP hD hS q0 he rfl 2 (by decide) (hts _ fl_WR_27) (fun _ h9 => h9) rfl hin rfl (by decide +kernel) hn hfit hl hdg kk
theorem fl_WR_36 : Cond.fieldLink "StackedRows$Writer" 36 "StackedRows$Writer" "number" "LStackedRows$BigNumber;" ∈ xt_T := xt_in (List.mem_of_getElem? (i := 178) (by decide +kernel)) (by decide +kernel)
theorem pf_WR_36 (hin : meth.name = "<init>") (hx : p.tables.exec = Jvm.exec) (hb : c.code = cc) (hts : ∀ w ∈ xt_T, w.before args s = true) (hown : s.vm.findClass "StackedRows$Writer" = some m.cls) (hK : va_K g.1 vwCl (xg_t g) s) (hP : va_P g.1 vwCl ws H) (hD : va_D A ws) (hS : va_S A s.heap H locs) (q0 : Nat) {fs : List Value} (he : ws[q0]? = some (oc_o a 10 fs)) {v : Value} (hn : narrow (.object "StackedRows$BigNumber") v = v) (hfit : fits (.object "StackedRows$BigNumber") v = true) (hl : 3 < fs.length) (hdg : decode cc pc = .ok (.putfield 36, 3)) (kk : ∀ (H1 : Heap) (locs1 : List Loc), va_P g.1 vwCl (ws.set q0 (oc_o a 10 (fs.set 3 v))) H1 → va_D A (ws.set q0 (oc_o a 10 (fs.set 3 v))) → va_S A s.heap H1 locs1 → W p l e R s m args below meth c H1 locs1 cells slots Q (F0 m (pc + 3) ls rest)) : W p l e R s m args below meth c H locs cells slots Q (F0 m pc ls (v :: .ref a :: rest)) :=
  va_putF (C := "StackedRows$Writer") (T := tk_T10) (N := 8) hx hb hts fi_WR tk_y10 tk_o10 tk_n10 hown hK hP hD hS q0 he rfl 3 (by decide) (hts _ fl_WR_36) (fun _ h9 => h9) rfl hin rfl (by decide +kernel) hn hfit hl hdg kk
theorem pf_WR_40 (hin : meth.name = "<init>") (hx : p.tables.exec = Jvm.exec) (hb : c.code = cc) (hts : ∀ w ∈ xt_T, w.before args s = true) (hown : s.vm.findClass "StackedRows$Writer" = some m.cls) (hK : va_K g.1 vwCl (xg_t g) s) (hP : va_P g.1 vwCl ws H) (hD : va_D A ws) (hS : va_S A s.heap H locs) (q0 : Nat) {fs : List Value} (he : ws[q0]? = some (oc_o a 10 fs)) {v : Value} (hn : narrow (.array .int) v = v) (hfit : fits (.array .int) v = true) (hl : 4 < fs.length) (hdg : decode cc pc = .ok (.putfield 40, 3)) (kk : ∀ (H1 : Heap) (locs1 : List Loc), va_P g.1 vwCl (ws.set q0 (oc_o a 10 (fs.set 4 v))) H1 → va_D A (ws.set q0 (oc_o a 10 (fs.set 4 v))) → va_S A s.heap H1 locs1 → W p l e R s m args below meth c H1 locs1 cells slots Q (F0 m (pc + 3) ls rest)) : W p l e R s m args below meth c H locs cells slots Q (F0 m pc ls (v :: .ref a :: rest)) :=
  va_putF (C := "StackedRows$Writer") (T := tk_T10) (N := 8) hx hb hts fi_WR tk_y10 tk_o10 tk_n10 hown hK hP hD hS q0 he rfl 4 (by decide) (hts _ fl_WR_40) (fun _ h9 => h9) rfl hin rfl (by decide +kernel) hn hfit hl hdg kk
theorem pf_WR_44 (hin : meth.name = "<init>") (hx : p.tables.exec = Jvm.exec) (hb : c.code = cc) (hts : ∀ w ∈ xt_T, w.before args s = true) (hown : s.vm.findClass "StackedRows$Writer" = some m.cls) (hK : va_K g.1 vwCl (xg_t g) s) (hP : va_P g.1 vwCl ws H) (hD : va_D A ws) (hS : va_S A s.heap H locs) (q0 : Nat) {fs : List Value} (he : ws[q0]? = some (oc_o a 10 fs)) {v : Value} (hn : narrow (.array .int) v = v) (hfit : fits (.array .int) v = true) (hl : 5 < fs.length) (hdg : decode cc pc = .ok (.putfield 44, 3)) (kk : ∀ (H1 : Heap) (locs1 : List Loc), va_P g.1 vwCl (ws.set q0 (oc_o a 10 (fs.set 5 v))) H1 → va_D A (ws.set q0 (oc_o a 10 (fs.set 5 v))) → va_S A s.heap H1 locs1 → W p l e R s m args below meth c H1 locs1 cells slots Q (F0 m (pc + 3) ls rest)) : W p l e R s m args below meth c H locs cells slots Q (F0 m pc ls (v :: .ref a :: rest)) :=
  va_putF (C := "StackedRows$Writer") (T := tk_T10) (N := 8) hx hb hts fi_WR tk_y10 tk_o10 tk_n10 hown hK hP hD hS q0 he rfl 5 (by decide) (hts _ fl_WR_44) (fun _ h9 => h9) rfl hin rfl (by decide +kernel) hn hfit hl hdg kk
theorem fl_WR_47 : Cond.fieldLink "StackedRows$Writer" 47 "StackedRows$Writer" "way" "I" ∈ xt_T := xt_in (List.mem_of_getElem? (i := 181) (by decide +kernel)) (by decide +kernel)
theorem pf_WR_47 (hx : p.tables.exec = Jvm.exec) (hb : c.code = cc) (hts : ∀ w ∈ xt_T, w.before args s = true) (hown : s.vm.findClass "StackedRows$Writer" = some m.cls) (hK : va_K g.1 vwCl (xg_t g) s) (hP : va_P g.1 vwCl ws H) (hD : va_D A ws) (hS : va_S A s.heap H locs) (q0 : Nat) {fs : List Value} (he : ws[q0]? = some (oc_o a 10 fs)) {v : Value} (hn : narrow (.int) v = v) (hfit : fits (.int) v = true) (hl : 6 < fs.length) (hdg : decode cc pc = .ok (.putfield 47, 3)) (kk : ∀ (H1 : Heap) (locs1 : List Loc), va_P g.1 vwCl (ws.set q0 (oc_o a 10 (fs.set 6 v))) H1 → va_D A (ws.set q0 (oc_o a 10 (fs.set 6 v))) → va_S A s.heap H1 locs1 → W p l e R s m args below meth c H1 locs1 cells slots Q (F0 m (pc + 3) ls rest)) : W p l e R s m args below meth c H locs cells slots Q (F0 m pc ls (v :: .ref a :: rest)) :=
  va_put (C := "StackedRows$Writer") (T := tk_T10) (N := 8) hx hb hts fi_WR tk_y10 tk_o10 tk_n10 hown hK hP hD hS q0 he rfl 6 (by decide) (hts _ fl_WR_47) (fun _ h9 => h9) rfl (by decide +kernel) hn hfit hl hdg kk
theorem pf_WR_51 (hx : p.tables.exec = Jvm.exec) (hb : c.code = cc) (hts : ∀ w ∈ xt_T, w.before args s = true) (hown : s.vm.findClass "StackedRows$Writer" = some m.cls) (hK : va_K g.1 vwCl (xg_t g) s) (hP : va_P g.1 vwCl ws H) (hD : va_D A ws) (hS : va_S A s.heap H locs) (q0 : Nat) {fs : List Value} (he : ws[q0]? = some (oc_o a 10 fs)) {v : Value} (hn : narrow (.boolean) v = v) (hfit : fits (.boolean) v = true) (hl : 7 < fs.length) (hdg : decode cc pc = .ok (.putfield 51, 3)) (kk : ∀ (H1 : Heap) (locs1 : List Loc), va_P g.1 vwCl (ws.set q0 (oc_o a 10 (fs.set 7 v))) H1 → va_D A (ws.set q0 (oc_o a 10 (fs.set 7 v))) → va_S A s.heap H1 locs1 → W p l e R s m args below meth c H1 locs1 cells slots Q (F0 m (pc + 3) ls rest)) : W p l e R s m args below meth c H locs cells slots Q (F0 m pc ls (v :: .ref a :: rest)) :=
  va_put (C := "StackedRows$Writer") (T := tk_T10) (N := 8) hx hb hts fi_WR tk_y10 tk_o10 tk_n10 hown hK hP hD hS q0 he rfl 7 (by decide) (hts _ fl_WR_51) (fun _ h9 => h9) rfl (by decide +kernel) hn hfit hl hdg kk
theorem pf_WR_9 (hin : meth.name = "<init>") (hx : p.tables.exec = Jvm.exec) (hb : c.code = cc) (hts : ∀ w ∈ xt_T, w.before args s = true) (hown : s.vm.findClass "StackedRows$Writer" = some m.cls) (hK : va_K g.1 vwCl (xg_t g) s) (hP : va_P g.1 vwCl ws H) (hD : va_D A ws) (hS : va_S A s.heap H locs) (q0 : Nat) {fs : List Value} (he : ws[q0]? = some (oc_o a 10 fs)) {v : Value} (hn : narrow (.object "StackedRows$Tape") v = v) (hfit : fits (.object "StackedRows$Tape") v = true) (hl : 0 < fs.length) (hdg : decode cc pc = .ok (.putfield 9, 3)) (kk : ∀ (H1 : Heap) (locs1 : List Loc), va_P g.1 vwCl (ws.set q0 (oc_o a 10 (fs.set 0 v))) H1 → va_D A (ws.set q0 (oc_o a 10 (fs.set 0 v))) → va_S A s.heap H1 locs1 → W p l e R s m args below meth c H1 locs1 cells slots Q (F0 m (pc + 3) ls rest)) : W p l e R s m args below meth c H locs cells slots Q (F0 m pc ls (v :: .ref a :: rest)) :=
  va_putF (C := "StackedRows$Writer") (T := tk_T10) (N := 8) hx hb hts fi_WR tk_y10 tk_o10 tk_n10 hown hK hP hD hS q0 he rfl 0 (by decide) (hts _ fl_WR_9) (fun _ h9 => h9) rfl hin rfl (by decide +kernel) hn hfit hl hdg kk
theorem pf_SR_12 (hin : meth.name = "<init>") (hx : p.tables.exec = Jvm.exec) (hb : c.code = cc) (hts : ∀ w ∈ xt_T, w.before args s = true) (hown : s.vm.findClass "StackedRows" = some m.cls) (hK : va_K g.1 vwCl (xg_t g) s) (hP : va_P g.1 vwCl ws H) (hD : va_D A ws) (hS : va_S A s.heap H locs) (q0 : Nat) {fs : List Value} (he : ws[q0]? = some (oc_o a 0 fs)) {v : Value} (hn : narrow (.object "StackedRows$Tape") v = v) (hfit : fits (.object "StackedRows$Tape") v = true) (hl : 0 < fs.length) (hdg : decode cc pc = .ok (.putfield 12, 3)) (kk : ∀ (H1 : Heap) (locs1 : List Loc), va_P g.1 vwCl (ws.set q0 (oc_o a 0 (fs.set 0 v))) H1 → va_D A (ws.set q0 (oc_o a 0 (fs.set 0 v))) → va_S A s.heap H1 locs1 → W p l e R s m args below meth c H1 locs1 cells slots Q (F0 m (pc + 3) ls rest)) : W p l e R s m args below meth c H locs cells slots Q (F0 m pc ls (v :: .ref a :: rest)) :=
  va_putF (C := "StackedRows") (T := tk_T0) (N := 7) hx hb hts fi_SR tk_y0 tk_o0 tk_n0 hown hK hP hD hS q0 he rfl 0 (by decide) (hts _ fl_SR_12) (fun _ h9 => h9) rfl hin rfl (by decide +kernel) hn hfit hl hdg kk
theorem pf_SR_21 (hin : meth.name = "<init>") (hx : p.tables.exec = Jvm.exec) (hb : c.code = cc) (hts : ∀ w ∈ xt_T, w.before args s = true) (hown : s.vm.findClass "StackedRows" = some m.cls) (hK : va_K g.1 vwCl (xg_t g) s) (hP : va_P g.1 vwCl ws H) (hD : va_D A ws) (hS : va_S A s.heap H locs) (q0 : Nat) {fs : List Value} (he : ws[q0]? = some (oc_o a 0 fs)) {v : Value} (hn : narrow (.object "StackedRows$Writer") v = v) (hfit : fits (.object "StackedRows$Writer") v = true) (hl : 1 < fs.length) (hdg : decode cc pc = .ok (.putfield 21, 3)) (kk : ∀ (H1 : Heap) (locs1 : List Loc), va_P g.1 vwCl (ws.set q0 (oc_o a 0 (fs.set 1 v))) H1 → va_D A (ws.set q0 (oc_o a 0 (fs.set 1 v))) → va_S A s.heap H1 locs1 → W p l e R s m args below meth c H1 locs1 cells slots Q (F0 m (pc + 3) ls rest)) : W p l e R s m args below meth c H locs cells slots Q (F0 m pc ls (v :: .ref a :: rest)) :=
  va_putF (C := "StackedRows") (T := tk_T0) (N := 7) hx hb hts fi_SR tk_y0 tk_o0 tk_n0 hown hK hP hD hS q0 he rfl 1 (by decide) (hts _ fl_SR_21) (fun _ h9 => h9) rfl hin rfl (by decide +kernel) hn hfit hl hdg kk
theorem pf_SR_28 (hin : meth.name = "<init>") (hx : p.tables.exec = Jvm.exec) (hb : c.code = cc) (hts : ∀ w ∈ xt_T, w.before args s = true) (hown : s.vm.findClass "StackedRows" = some m.cls) (hK : va_K g.1 vwCl (xg_t g) s) (hP : va_P g.1 vwCl ws H) (hD : va_D A ws) (hS : va_S A s.heap H locs) (q0 : Nat) {fs : List Value} (he : ws[q0]? = some (oc_o a 0 fs)) {v : Value} (hn : narrow (.object "StackedRows$Checks") v = v) (hfit : fits (.object "StackedRows$Checks") v = true) (hl : 2 < fs.length) (hdg : decode cc pc = .ok (.putfield 28, 3)) (kk : ∀ (H1 : Heap) (locs1 : List Loc), va_P g.1 vwCl (ws.set q0 (oc_o a 0 (fs.set 2 v))) H1 → va_D A (ws.set q0 (oc_o a 0 (fs.set 2 v))) → va_S A s.heap H1 locs1 → W p l e R s m args below meth c H1 locs1 cells slots Q (F0 m (pc + 3) ls rest)) : W p l e R s m args below meth c H locs cells slots Q (F0 m pc ls (v :: .ref a :: rest)) :=
  va_putF (C := "StackedRows") (T := tk_T0) (N := 7) hx hb hts fi_SR tk_y0 tk_o0 tk_n0 hown hK hP hD hS q0 he rfl 2 (by decide) (hts _ fl_SR_28) (fun _ h9 => h9) rfl hin rfl (by decide +kernel) hn hfit hl hdg kk
theorem pf_SR_35 (hin : meth.name = "<init>") (hx : p.tables.exec = Jvm.exec) (hb : c.code = cc) (hts : ∀ w ∈ xt_T, w.before args s = true) (hown : s.vm.findClass "StackedRows" = some m.cls) (hK : va_K g.1 vwCl (xg_t g) s) (hP : va_P g.1 vwCl ws H) (hD : va_D A ws) (hS : va_S A s.heap H locs) (q0 : Nat) {fs : List Value} (he : ws[q0]? = some (oc_o a 0 fs)) {v : Value} (hn : narrow (.object "StackedRows$Symbol") v = v) (hfit : fits (.object "StackedRows$Symbol") v = true) (hl : 3 < fs.length) (hdg : decode cc pc = .ok (.putfield 35, 3)) (kk : ∀ (H1 : Heap) (locs1 : List Loc), va_P g.1 vwCl (ws.set q0 (oc_o a 0 (fs.set 3 v))) H1 → va_D A (ws.set q0 (oc_o a 0 (fs.set 3 v))) → va_S A s.heap H1 locs1 → W p l e R s m args below meth c H1 locs1 cells slots Q (F0 m (pc + 3) ls rest)) : W p l e R s m args below meth c H locs cells slots Q (F0 m pc ls (v :: .ref a :: rest)) :=
  va_putF (C := "StackedRows") (T := tk_T0) (N := 7) hx hb hts fi_SR tk_y0 tk_o0 tk_n0 hown hK hP hD hS q0 he rfl 3 (by decide) (hts _ fl_SR_35) (fun _ h9 => h9) rfl hin rfl (by decide +kernel) hn hfit hl hdg kk
theorem pf_SR_39 (hin : meth.name = "<init>") (hx : p.tables.exec = Jvm.exec) (hb : c.code = cc) (hts : ∀ w ∈ xt_T, w.before args s = true) (hown : s.vm.findClass "StackedRows" = some m.cls) (hK : va_K g.1 vwCl (xg_t g) s) (hP : va_P g.1 vwCl ws H) (hD : va_D A ws) (hS : va_S A s.heap H locs) (q0 : Nat) {fs : List Value} (he : ws[q0]? = some (oc_o a 0 fs)) {v : Value} (hn : narrow (.array .int) v = v) (hfit : fits (.array .int) v = true) (hl : 5 < fs.length) (hdg : decode cc pc = .ok (.putfield 39, 3)) (kk : ∀ (H1 : Heap) (locs1 : List Loc), va_P g.1 vwCl (ws.set q0 (oc_o a 0 (fs.set 5 v))) H1 → va_D A (ws.set q0 (oc_o a 0 (fs.set 5 v))) → va_S A s.heap H1 locs1 → W p l e R s m args below meth c H1 locs1 cells slots Q (F0 m (pc + 3) ls rest)) : W p l e R s m args below meth c H locs cells slots Q (F0 m pc ls (v :: .ref a :: rest)) :=
  va_putF (C := "StackedRows") (T := tk_T0) (N := 7) hx hb hts fi_SR tk_y0 tk_o0 tk_n0 hown hK hP hD hS q0 he rfl 5 (by decide) (hts _ fl_SR_39) (fun _ h9 => h9) rfl hin rfl (by decide +kernel) hn hfit hl hdg kk
theorem fl_SR_48 : Cond.fieldLink "StackedRows" 48 "StackedRows" "solver" "LStackedRows$Solver;" ∈ xt_T := xt_in (List.mem_of_getElem? (i := 334) (by decide +kernel)) (by decide +kernel)
theorem pf_SR_48 (hin : meth.name = "<init>") (hx : p.tables.exec = Jvm.exec) (hb : c.code = cc) (hts : ∀ w ∈ xt_T, w.before args s = true) (hown : s.vm.findClass "StackedRows" = some m.cls) (hK : va_K g.1 vwCl (xg_t g) s) (hP : va_P g.1 vwCl ws H) (hD : va_D A ws) (hS : va_S A s.heap H locs) (q0 : Nat) {fs : List Value} (he : ws[q0]? = some (oc_o a 0 fs)) {v : Value} (hn : narrow (.object "StackedRows$Solver") v = v) (hfit : fits (.object "StackedRows$Solver") v = true) (hl : 4 < fs.length) (hdg : decode cc pc = .ok (.putfield 48, 3)) (kk : ∀ (H1 : Heap) (locs1 : List Loc), va_P g.1 vwCl (ws.set q0 (oc_o a 0 (fs.set 4 v))) H1 → va_D A (ws.set q0 (oc_o a 0 (fs.set 4 v))) → va_S A s.heap H1 locs1 → W p l e R s m args below meth c H1 locs1 cells slots Q (F0 m (pc + 3) ls rest)) : W p l e R s m args below meth c H locs cells slots Q (F0 m pc ls (v :: .ref a :: rest)) :=
  va_putF (C := "StackedRows") (T := tk_T0) (N := 7) hx hb hts fi_SR tk_y0 tk_o0 tk_n0 hown hK hP hD hS q0 he rfl 4 (by decide) (hts _ fl_SR_48) (fun _ h9 => h9) rfl hin rfl (by decide +kernel) hn hfit hl hdg kk
theorem pf_SR_52 (hin : meth.name = "<init>") (hx : p.tables.exec = Jvm.exec) (hb : c.code = cc) (hts : ∀ w ∈ xt_T, w.before args s = true) (hown : s.vm.findClass "StackedRows" = some m.cls) (hK : va_K g.1 vwCl (xg_t g) s) (hP : va_P g.1 vwCl ws H) (hD : va_D A ws) (hS : va_S A s.heap H locs) (q0 : Nat) {fs : List Value} (he : ws[q0]? = some (oc_o a 0 fs)) {v : Value} (hn : narrow (.array .int) v = v) (hfit : fits (.array .int) v = true) (hl : 6 < fs.length) (hdg : decode cc pc = .ok (.putfield 52, 3)) (kk : ∀ (H1 : Heap) (locs1 : List Loc), va_P g.1 vwCl (ws.set q0 (oc_o a 0 (fs.set 6 v))) H1 → va_D A (ws.set q0 (oc_o a 0 (fs.set 6 v))) → va_S A s.heap H1 locs1 → W p l e R s m args below meth c H1 locs1 cells slots Q (F0 m (pc + 3) ls rest)) : W p l e R s m args below meth c H locs cells slots Q (F0 m pc ls (v :: .ref a :: rest)) :=
  va_putF (C := "StackedRows") (T := tk_T0) (N := 7) hx hb hts fi_SR tk_y0 tk_o0 tk_n0 hown hK hP hD hS q0 he rfl 6 (by decide) (hts _ fl_SR_52) (fun _ h9 => h9) rfl hin rfl (by decide +kernel) hn hfit hl hdg kk
theorem fl_MO_102 : Cond.fieldLink "StackedRowsModel" 102 "StackedRowsModel" "set" "I" ∈ xt_T := xt_in (List.mem_of_getElem? (i := 1070) (by decide +kernel)) (by decide +kernel)
theorem pf_MO_102 (hx : p.tables.exec = Jvm.exec) (hb : c.code = cc) (hts : ∀ w ∈ xt_T, w.before args s = true) (hown : s.vm.findClass "StackedRowsModel" = some m.cls) (hK : va_K g.1 vwCl (xg_t g) s) (hP : va_P g.1 vwCl ws H) (hD : va_D A ws) (hS : va_S A s.heap H locs) (q0 : Nat) {fs : List Value} (he : ws[q0]? = some (oc_o a 11 fs)) {v : Value} (hn : narrow (.int) v = v) (hfit : fits (.int) v = true) (hl : 5 < fs.length) (hdg : decode cc pc = .ok (.putfield 102, 3)) (kk : ∀ (H1 : Heap) (locs1 : List Loc), va_P g.1 vwCl (ws.set q0 (oc_o a 11 (fs.set 5 v))) H1 → va_D A (ws.set q0 (oc_o a 11 (fs.set 5 v))) → va_S A s.heap H1 locs1 → W p l e R s m args below meth c H1 locs1 cells slots Q (F0 m (pc + 3) ls rest)) : W p l e R s m args below meth c H locs cells slots Q (F0 m pc ls (v :: .ref a :: rest)) :=
  va_put (C := "StackedRowsModel") (T := tk_T11) (N := 32) hx hb hts fi_MO tk_y11 tk_o11 tk_n11 hown hK hP hD hS q0 he rfl 5 (by decide) (hts _ fl_MO_102) (fun _ h9 => h9) rfl (by decide +kernel) hn hfit hl hdg kk
theorem fl_MO_13 : Cond.fieldLink "StackedRowsModel" 13 "StackedRowsModel" "words" "[I" ∈ xt_T := xt_in (List.mem_of_getElem? (i := 1068) (by decide +kernel)) (by decide +kernel)
theorem pf_MO_13 (hin : meth.name = "<init>") (hx : p.tables.exec = Jvm.exec) (hb : c.code = cc) (hts : ∀ w ∈ xt_T, w.before args s = true) (hown : s.vm.findClass "StackedRowsModel" = some m.cls) (hK : va_K g.1 vwCl (xg_t g) s) (hP : va_P g.1 vwCl ws H) (hD : va_D A ws) (hS : va_S A s.heap H locs) (q0 : Nat) {fs : List Value} (he : ws[q0]? = some (oc_o a 11 fs)) {v : Value} (hn : narrow (.array .int) v = v) (hfit : fits (.array .int) v = true) (hl : 3 < fs.length) (hdg : decode cc pc = .ok (.putfield 13, 3)) (kk : ∀ (H1 : Heap) (locs1 : List Loc), va_P g.1 vwCl (ws.set q0 (oc_o a 11 (fs.set 3 v))) H1 → va_D A (ws.set q0 (oc_o a 11 (fs.set 3 v))) → va_S A s.heap H1 locs1 → W p l e R s m args below meth c H1 locs1 cells slots Q (F0 m (pc + 3) ls rest)) : W p l e R s m args below meth c H locs cells slots Q (F0 m pc ls (v :: .ref a :: rest)) :=
  va_putF (C := "StackedRowsModel") (T := tk_T11) (N := 32) hx hb hts fi_MO tk_y11 tk_o11 tk_n11 hown hK hP hD hS q0 he rfl 3 (by decide) (hts _ fl_MO_13) (fun _ h9 => h9) rfl hin rfl (by decide +kernel) hn hfit hl hdg kk
theorem pf_MO_134 (hx : p.tables.exec = Jvm.exec) (hb : c.code = cc) (hts : ∀ w ∈ xt_T, w.before args s = true) (hown : s.vm.findClass "StackedRowsModel" = some m.cls) (hK : va_K g.1 vwCl (xg_t g) s) (hP : va_P g.1 vwCl ws H) (hD : va_D A ws) (hS : va_S A s.heap H locs) (q0 : Nat) {fs : List Value} (he : ws[q0]? = some (oc_o a 11 fs)) {v : Value} (hn : narrow (.int) v = v) (hfit : fits (.int) v = true) (hl : 9 < fs.length) (hdg : decode cc pc = .ok (.putfield 134, 3)) (kk : ∀ (H1 : Heap) (locs1 : List Loc), va_P g.1 vwCl (ws.set q0 (oc_o a 11 (fs.set 9 v))) H1 → va_D A (ws.set q0 (oc_o a 11 (fs.set 9 v))) → va_S A s.heap H1 locs1 → W p l e R s m args below meth c H1 locs1 cells slots Q (F0 m (pc + 3) ls rest)) : W p l e R s m args below meth c H locs cells slots Q (F0 m pc ls (v :: .ref a :: rest)) :=
  va_put (C := "StackedRowsModel") (T := tk_T11) (N := 32) hx hb hts fi_MO tk_y11 tk_o11 tk_n11 hown hK hP hD hS q0 he rfl 9 (by decide) (hts _ fl_MO_134) (fun _ h9 => h9) rfl (by decide +kernel) hn hfit hl hdg kk
theorem pf_MO_137 (hx : p.tables.exec = Jvm.exec) (hb : c.code = cc) (hts : ∀ w ∈ xt_T, w.before args s = true) (hown : s.vm.findClass "StackedRowsModel" = some m.cls) (hK : va_K g.1 vwCl (xg_t g) s) (hP : va_P g.1 vwCl ws H) (hD : va_D A ws) (hS : va_S A s.heap H locs) (q0 : Nat) {fs : List Value} (he : ws[q0]? = some (oc_o a 11 fs)) {v : Value} (hn : narrow (.int) v = v) (hfit : fits (.int) v = true) (hl : 10 < fs.length) (hdg : decode cc pc = .ok (.putfield 137, 3)) (kk : ∀ (H1 : Heap) (locs1 : List Loc), va_P g.1 vwCl (ws.set q0 (oc_o a 11 (fs.set 10 v))) H1 → va_D A (ws.set q0 (oc_o a 11 (fs.set 10 v))) → va_S A s.heap H1 locs1 → W p l e R s m args below meth c H1 locs1 cells slots Q (F0 m (pc + 3) ls rest)) : W p l e R s m args below meth c H locs cells slots Q (F0 m pc ls (v :: .ref a :: rest)) :=
  va_put (C := "StackedRowsModel") (T := tk_T11) (N := 32) hx hb hts fi_MO tk_y11 tk_o11 tk_n11 hown hK hP hD hS q0 he rfl 10 (by decide) (hts _ fl_MO_137) (fun _ h9 => h9) rfl (by decide +kernel) hn hfit hl hdg kk
theorem fl_MO_16 : Cond.fieldLink "StackedRowsModel" 16 "StackedRowsModel" "mixed" "[I" ∈ xt_T := xt_in (List.mem_of_getElem? (i := 1072) (by decide +kernel)) (by decide +kernel)
theorem pf_MO_16 (hin : meth.name = "<init>") (hx : p.tables.exec = Jvm.exec) (hb : c.code = cc) (hts : ∀ w ∈ xt_T, w.before args s = true) (hown : s.vm.findClass "StackedRowsModel" = some m.cls) (hK : va_K g.1 vwCl (xg_t g) s) (hP : va_P g.1 vwCl ws H) (hD : va_D A ws) (hS : va_S A s.heap H locs) (q0 : Nat) {fs : List Value} (he : ws[q0]? = some (oc_o a 11 fs)) {v : Value} (hn : narrow (.array .int) v = v) (hfit : fits (.array .int) v = true) (hl : 7 < fs.length) (hdg : decode cc pc = .ok (.putfield 16, 3)) (kk : ∀ (H1 : Heap) (locs1 : List Loc), va_P g.1 vwCl (ws.set q0 (oc_o a 11 (fs.set 7 v))) H1 → va_D A (ws.set q0 (oc_o a 11 (fs.set 7 v))) → va_S A s.heap H1 locs1 → W p l e R s m args below meth c H1 locs1 cells slots Q (F0 m (pc + 3) ls rest)) : W p l e R s m args below meth c H locs cells slots Q (F0 m pc ls (v :: .ref a :: rest)) :=
  va_putF (C := "StackedRowsModel") (T := tk_T11) (N := 32) hx hb hts fi_MO tk_y11 tk_o11 tk_n11 hown hK hP hD hS q0 he rfl 7 (by decide) (hts _ fl_MO_16) (fun _ h9 => h9) rfl hin rfl (by decide +kernel) hn hfit hl hdg kk
theorem fl_MO_19 : Cond.fieldLink "StackedRowsModel" 19 "StackedRowsModel" "signs" "[I" ∈ xt_T := xt_in (List.mem_of_getElem? (i := 1073) (by decide +kernel)) (by decide +kernel)
theorem pf_MO_19 (hin : meth.name = "<init>") (hx : p.tables.exec = Jvm.exec) (hb : c.code = cc) (hts : ∀ w ∈ xt_T, w.before args s = true) (hown : s.vm.findClass "StackedRowsModel" = some m.cls) (hK : va_K g.1 vwCl (xg_t g) s) (hP : va_P g.1 vwCl ws H) (hD : va_D A ws) (hS : va_S A s.heap H locs) (q0 : Nat) {fs : List Value} (he : ws[q0]? = some (oc_o a 11 fs)) {v : Value} (hn : narrow (.array .int) v = v) (hfit : fits (.array .int) v = true) (hl : 8 < fs.length) (hdg : decode cc pc = .ok (.putfield 19, 3)) (kk : ∀ (H1 : Heap) (locs1 : List Loc), va_P g.1 vwCl (ws.set q0 (oc_o a 11 (fs.set 8 v))) H1 → va_D A (ws.set q0 (oc_o a 11 (fs.set 8 v))) → va_S A s.heap H1 locs1 → W p l e R s m args below meth c H1 locs1 cells slots Q (F0 m (pc + 3) ls rest)) : W p l e R s m args below meth c H locs cells slots Q (F0 m pc ls (v :: .ref a :: rest)) :=
  va_putF (C := "StackedRowsModel") (T := tk_T11) (N := 32) hx hb hts fi_MO tk_y11 tk_o11 tk_n11 hown hK hP hD hS q0 he rfl 8 (by decide) (hts _ fl_MO_19) (fun _ h9 => h9) rfl hin rfl (by decide +kernel) hn hfit hl hdg kk
theorem pf_MO_22 (hin : meth.name = "<init>") (hx : p.tables.exec = Jvm.exec) (hb : c.code = cc) (hts : ∀ w ∈ xt_T, w.before args s = true) (hown : s.vm.findClass "StackedRowsModel" = some m.cls) (hK : va_K g.1 vwCl (xg_t g) s) (hP : va_P g.1 vwCl ws H) (hD : va_D A ws) (hS : va_S A s.heap H locs) (q0 : Nat) {fs : List Value} (he : ws[q0]? = some (oc_o a 11 fs)) {v : Value} (hn : narrow (.array .int) v = v) (hfit : fits (.array .int) v = true) (hl : 11 < fs.length) (hdg : decode cc pc = .ok (.putfield 22, 3)) (kk : ∀ (H1 : Heap) (locs1 : List Loc), va_P g.1 vwCl (ws.set q0 (oc_o a 11 (fs.set 11 v))) H1 → va_D A (ws.set q0 (oc_o a 11 (fs.set 11 v))) → va_S A s.heap H1 locs1 → W p l e R s m args below meth c H1 locs1 cells slots Q (F0 m (pc + 3) ls rest)) : W p l e R s m args below meth c H locs cells slots Q (F0 m pc ls (v :: .ref a :: rest)) :=
  va_putF (C := "StackedRowsModel") (T := tk_T11) (N := 32) hx hb hts fi_MO tk_y11 tk_o11 tk_n11 hown hK hP hD hS q0 he rfl 11 (by decide) (hts _ fl_MO_22) (fun _ h9 => h9) rfl hin rfl (by decide +kernel) hn hfit hl hdg kk
theorem pf_MO_25 (hin : meth.name = "<init>") (hx : p.tables.exec = Jvm.exec) (hb : c.code = cc) (hts : ∀ w ∈ xt_T, w.before args s = true) (hown : s.vm.findClass "StackedRowsModel" = some m.cls) (hK : va_K g.1 vwCl (xg_t g) s) (hP : va_P g.1 vwCl ws H) (hD : va_D A ws) (hS : va_S A s.heap H locs) (q0 : Nat) {fs : List Value} (he : ws[q0]? = some (oc_o a 11 fs)) {v : Value} (hn : narrow (.array .int) v = v) (hfit : fits (.array .int) v = true) (hl : 16 < fs.length) (hdg : decode cc pc = .ok (.putfield 25, 3)) (kk : ∀ (H1 : Heap) (locs1 : List Loc), va_P g.1 vwCl (ws.set q0 (oc_o a 11 (fs.set 16 v))) H1 → va_D A (ws.set q0 (oc_o a 11 (fs.set 16 v))) → va_S A s.heap H1 locs1 → W p l e R s m args below meth c H1 locs1 cells slots Q (F0 m (pc + 3) ls rest)) : W p l e R s m args below meth c H locs cells slots Q (F0 m pc ls (v :: .ref a :: rest)) :=
  va_putF (C := "StackedRowsModel") (T := tk_T11) (N := 32) hx hb hts fi_MO tk_y11 tk_o11 tk_n11 hown hK hP hD hS q0 he rfl 16 (by decide) (hts _ fl_MO_25) (fun _ h9 => h9) rfl hin rfl (by decide +kernel) hn hfit hl hdg kk
theorem fl_MO_28 : Cond.fieldLink "StackedRowsModel" 28 "StackedRowsModel" "lost" "[Z" ∈ xt_T := xt_in (List.mem_of_getElem? (i := 1082) (by decide +kernel)) (by decide +kernel)
theorem pf_MO_28 (hin : meth.name = "<init>") (hx : p.tables.exec = Jvm.exec) (hb : c.code = cc) (hts : ∀ w ∈ xt_T, w.before args s = true) (hown : s.vm.findClass "StackedRowsModel" = some m.cls) (hK : va_K g.1 vwCl (xg_t g) s) (hP : va_P g.1 vwCl ws H) (hD : va_D A ws) (hS : va_S A s.heap H locs) (q0 : Nat) {fs : List Value} (he : ws[q0]? = some (oc_o a 11 fs)) {v : Value} (hn : narrow (.array .boolean) v = v) (hfit : fits (.array .boolean) v = true) (hl : 17 < fs.length) (hdg : decode cc pc = .ok (.putfield 28, 3)) (kk : ∀ (H1 : Heap) (locs1 : List Loc), va_P g.1 vwCl (ws.set q0 (oc_o a 11 (fs.set 17 v))) H1 → va_D A (ws.set q0 (oc_o a 11 (fs.set 17 v))) → va_S A s.heap H1 locs1 → W p l e R s m args below meth c H1 locs1 cells slots Q (F0 m (pc + 3) ls rest)) : W p l e R s m args below meth c H locs cells slots Q (F0 m pc ls (v :: .ref a :: rest)) :=
  va_putF (C := "StackedRowsModel") (T := tk_T11) (N := 32) hx hb hts fi_MO tk_y11 tk_o11 tk_n11 hown hK hP hD hS q0 he rfl 17 (by decide) (hts _ fl_MO_28) (fun _ h9 => h9) rfl hin rfl (by decide +kernel) hn hfit hl hdg kk
theorem pf_MO_32 (hin : meth.name = "<init>") (hx : p.tables.exec = Jvm.exec) (hb : c.code = cc) (hts : ∀ w ∈ xt_T, w.before args s = true) (hown : s.vm.findClass "StackedRowsModel" = some m.cls) (hK : va_K g.1 vwCl (xg_t g) s) (hP : va_P g.1 vwCl ws H) (hD : va_D A ws) (hS : va_S A s.heap H locs) (q0 : Nat) {fs : List Value} (he : ws[q0]? = some (oc_o a 11 fs)) {v : Value} (hn : narrow (.array .int) v = v) (hfit : fits (.array .int) v = true) (hl : 18 < fs.length) (hdg : decode cc pc = .ok (.putfield 32, 3)) (kk : ∀ (H1 : Heap) (locs1 : List Loc), va_P g.1 vwCl (ws.set q0 (oc_o a 11 (fs.set 18 v))) H1 → va_D A (ws.set q0 (oc_o a 11 (fs.set 18 v))) → va_S A s.heap H1 locs1 → W p l e R s m args below meth c H1 locs1 cells slots Q (F0 m (pc + 3) ls rest)) : W p l e R s m args below meth c H locs cells slots Q (F0 m pc ls (v :: .ref a :: rest)) :=
  va_putF (C := "StackedRowsModel") (T := tk_T11) (N := 32) hx hb hts fi_MO tk_y11 tk_o11 tk_n11 hown hK hP hD hS q0 he rfl 18 (by decide) (hts _ fl_MO_32) (fun _ h9 => h9) rfl hin rfl (by decide +kernel) hn hfit hl hdg kk
theorem fl_MO_35 : Cond.fieldLink "StackedRowsModel" 35 "StackedRowsModel" "sums" "[I" ∈ xt_T := xt_in (List.mem_of_getElem? (i := 1084) (by decide +kernel)) (by decide +kernel)
theorem pf_MO_35 (hin : meth.name = "<init>") (hx : p.tables.exec = Jvm.exec) (hb : c.code = cc) (hts : ∀ w ∈ xt_T, w.before args s = true) (hown : s.vm.findClass "StackedRowsModel" = some m.cls) (hK : va_K g.1 vwCl (xg_t g) s) (hP : va_P g.1 vwCl ws H) (hD : va_D A ws) (hS : va_S A s.heap H locs) (q0 : Nat) {fs : List Value} (he : ws[q0]? = some (oc_o a 11 fs)) {v : Value} (hn : narrow (.array .int) v = v) (hfit : fits (.array .int) v = true) (hl : 19 < fs.length) (hdg : decode cc pc = .ok (.putfield 35, 3)) (kk : ∀ (H1 : Heap) (locs1 : List Loc), va_P g.1 vwCl (ws.set q0 (oc_o a 11 (fs.set 19 v))) H1 → va_D A (ws.set q0 (oc_o a 11 (fs.set 19 v))) → va_S A s.heap H1 locs1 → W p l e R s m args below meth c H1 locs1 cells slots Q (F0 m (pc + 3) ls rest)) : W p l e R s m args below meth c H locs cells slots Q (F0 m pc ls (v :: .ref a :: rest)) :=
  va_putF (C := "StackedRowsModel") (T := tk_T11) (N := 32) hx hb hts fi_MO tk_y11 tk_o11 tk_n11 hown hK hP hD hS q0 he rfl 19 (by decide) (hts _ fl_MO_35) (fun _ h9 => h9) rfl hin rfl (by decide +kernel) hn hfit hl hdg kk
theorem fl_MO_38 : Cond.fieldLink "StackedRowsModel" 38 "StackedRowsModel" "counted" "[I" ∈ xt_T := xt_in (List.mem_of_getElem? (i := 1085) (by decide +kernel)) (by decide +kernel)
theorem pf_MO_38 (hin : meth.name = "<init>") (hx : p.tables.exec = Jvm.exec) (hb : c.code = cc) (hts : ∀ w ∈ xt_T, w.before args s = true) (hown : s.vm.findClass "StackedRowsModel" = some m.cls) (hK : va_K g.1 vwCl (xg_t g) s) (hP : va_P g.1 vwCl ws H) (hD : va_D A ws) (hS : va_S A s.heap H locs) (q0 : Nat) {fs : List Value} (he : ws[q0]? = some (oc_o a 11 fs)) {v : Value} (hn : narrow (.array .int) v = v) (hfit : fits (.array .int) v = true) (hl : 20 < fs.length) (hdg : decode cc pc = .ok (.putfield 38, 3)) (kk : ∀ (H1 : Heap) (locs1 : List Loc), va_P g.1 vwCl (ws.set q0 (oc_o a 11 (fs.set 20 v))) H1 → va_D A (ws.set q0 (oc_o a 11 (fs.set 20 v))) → va_S A s.heap H1 locs1 → W p l e R s m args below meth c H1 locs1 cells slots Q (F0 m (pc + 3) ls rest)) : W p l e R s m args below meth c H locs cells slots Q (F0 m pc ls (v :: .ref a :: rest)) :=
  va_putF (C := "StackedRowsModel") (T := tk_T11) (N := 32) hx hb hts fi_MO tk_y11 tk_o11 tk_n11 hown hK hP hD hS q0 he rfl 20 (by decide) (hts _ fl_MO_38) (fun _ h9 => h9) rfl hin rfl (by decide +kernel) hn hfit hl hdg kk
theorem pf_MO_41 (hin : meth.name = "<init>") (hx : p.tables.exec = Jvm.exec) (hb : c.code = cc) (hts : ∀ w ∈ xt_T, w.before args s = true) (hown : s.vm.findClass "StackedRowsModel" = some m.cls) (hK : va_K g.1 vwCl (xg_t g) s) (hP : va_P g.1 vwCl ws H) (hD : va_D A ws) (hS : va_S A s.heap H locs) (q0 : Nat) {fs : List Value} (he : ws[q0]? = some (oc_o a 11 fs)) {v : Value} (hn : narrow (.array .int) v = v) (hfit : fits (.array .int) v = true) (hl : 21 < fs.length) (hdg : decode cc pc = .ok (.putfield 41, 3)) (kk : ∀ (H1 : Heap) (locs1 : List Loc), va_P g.1 vwCl (ws.set q0 (oc_o a 11 (fs.set 21 v))) H1 → va_D A (ws.set q0 (oc_o a 11 (fs.set 21 v))) → va_S A s.heap H1 locs1 → W p l e R s m args below meth c H1 locs1 cells slots Q (F0 m (pc + 3) ls rest)) : W p l e R s m args below meth c H locs cells slots Q (F0 m pc ls (v :: .ref a :: rest)) :=
  va_putF (C := "StackedRowsModel") (T := tk_T11) (N := 32) hx hb hts fi_MO tk_y11 tk_o11 tk_n11 hown hK hP hD hS q0 he rfl 21 (by decide) (hts _ fl_MO_41) (fun _ h9 => h9) rfl hin rfl (by decide +kernel) hn hfit hl hdg kk
theorem fl_MO_44 : Cond.fieldLink "StackedRowsModel" 44 "StackedRowsModel" "above" "[I" ∈ xt_T := xt_in (List.mem_of_getElem? (i := 1087) (by decide +kernel)) (by decide +kernel)
theorem pf_MO_44 (hin : meth.name = "<init>") (hx : p.tables.exec = Jvm.exec) (hb : c.code = cc) (hts : ∀ w ∈ xt_T, w.before args s = true) (hown : s.vm.findClass "StackedRowsModel" = some m.cls) (hK : va_K g.1 vwCl (xg_t g) s) (hP : va_P g.1 vwCl ws H) (hD : va_D A ws) (hS : va_S A s.heap H locs) (q0 : Nat) {fs : List Value} (he : ws[q0]? = some (oc_o a 11 fs)) {v : Value} (hn : narrow (.array .int) v = v) (hfit : fits (.array .int) v = true) (hl : 22 < fs.length) (hdg : decode cc pc = .ok (.putfield 44, 3)) (kk : ∀ (H1 : Heap) (locs1 : List Loc), va_P g.1 vwCl (ws.set q0 (oc_o a 11 (fs.set 22 v))) H1 → va_D A (ws.set q0 (oc_o a 11 (fs.set 22 v))) → va_S A s.heap H1 locs1 → W p l e R s m args below meth c H1 locs1 cells slots Q (F0 m (pc + 3) ls rest)) : W p l e R s m args below meth c H locs cells slots Q (F0 m pc ls (v :: .ref a :: rest)) :=
  va_putF (C := "StackedRowsModel") (T := tk_T11) (N := 32) hx hb hts fi_MO tk_y11 tk_o11 tk_n11 hown hK hP hD hS q0 he rfl 22 (by decide) (hts _ fl_MO_44) (fun _ h9 => h9) rfl hin rfl (by decide +kernel) hn hfit hl hdg kk
theorem fl_MO_47 : Cond.fieldLink "StackedRowsModel" 47 "StackedRowsModel" "below" "[I" ∈ xt_T := xt_in (List.mem_of_getElem? (i := 1088) (by decide +kernel)) (by decide +kernel)
theorem pf_MO_47 (hin : meth.name = "<init>") (hx : p.tables.exec = Jvm.exec) (hb : c.code = cc) (hts : ∀ w ∈ xt_T, w.before args s = true) (hown : s.vm.findClass "StackedRowsModel" = some m.cls) (hK : va_K g.1 vwCl (xg_t g) s) (hP : va_P g.1 vwCl ws H) (hD : va_D A ws) (hS : va_S A s.heap H locs) (q0 : Nat) {fs : List Value} (he : ws[q0]? = some (oc_o a 11 fs)) {v : Value} (hn : narrow (.array .int) v = v) (hfit : fits (.array .int) v = true) (hl : 23 < fs.length) (hdg : decode cc pc = .ok (.putfield 47, 3)) (kk : ∀ (H1 : Heap) (locs1 : List Loc), va_P g.1 vwCl (ws.set q0 (oc_o a 11 (fs.set 23 v))) H1 → va_D A (ws.set q0 (oc_o a 11 (fs.set 23 v))) → va_S A s.heap H1 locs1 → W p l e R s m args below meth c H1 locs1 cells slots Q (F0 m (pc + 3) ls rest)) : W p l e R s m args below meth c H locs cells slots Q (F0 m pc ls (v :: .ref a :: rest)) :=
  va_putF (C := "StackedRowsModel") (T := tk_T11) (N := 32) hx hb hts fi_MO tk_y11 tk_o11 tk_n11 hown hK hP hD hS q0 he rfl 23 (by decide) (hts _ fl_MO_47) (fun _ h9 => h9) rfl hin rfl (by decide +kernel) hn hfit hl hdg kk
theorem fl_MO_50 : Cond.fieldLink "StackedRowsModel" 50 "StackedRowsModel" "old" "[I" ∈ xt_T := xt_in (List.mem_of_getElem? (i := 1089) (by decide +kernel)) (by decide +kernel)
theorem pf_MO_50 (hin : meth.name = "<init>") (hx : p.tables.exec = Jvm.exec) (hb : c.code = cc) (hts : ∀ w ∈ xt_T, w.before args s = true) (hown : s.vm.findClass "StackedRowsModel" = some m.cls) (hK : va_K g.1 vwCl (xg_t g) s) (hP : va_P g.1 vwCl ws H) (hD : va_D A ws) (hS : va_S A s.heap H locs) (q0 : Nat) {fs : List Value} (he : ws[q0]? = some (oc_o a 11 fs)) {v : Value} (hn : narrow (.array .int) v = v) (hfit : fits (.array .int) v = true) (hl : 24 < fs.length) (hdg : decode cc pc = .ok (.putfield 50, 3)) (kk : ∀ (H1 : Heap) (locs1 : List Loc), va_P g.1 vwCl (ws.set q0 (oc_o a 11 (fs.set 24 v))) H1 → va_D A (ws.set q0 (oc_o a 11 (fs.set 24 v))) → va_S A s.heap H1 locs1 → W p l e R s m args below meth c H1 locs1 cells slots Q (F0 m (pc + 3) ls rest)) : W p l e R s m args below meth c H locs cells slots Q (F0 m pc ls (v :: .ref a :: rest)) :=
  va_putF (C := "StackedRowsModel") (T := tk_T11) (N := 32) hx hb hts fi_MO tk_y11 tk_o11 tk_n11 hown hK hP hD hS q0 he rfl 24 (by decide) (hts _ fl_MO_50) (fun _ h9 => h9) rfl hin rfl (by decide +kernel) hn hfit hl hdg kk
theorem fl_MO_53 : Cond.fieldLink "StackedRowsModel" 53 "StackedRowsModel" "now" "[I" ∈ xt_T := xt_in (List.mem_of_getElem? (i := 1090) (by decide +kernel)) (by decide +kernel)
theorem pf_MO_53 (hin : meth.name = "<init>") (hx : p.tables.exec = Jvm.exec) (hb : c.code = cc) (hts : ∀ w ∈ xt_T, w.before args s = true) (hown : s.vm.findClass "StackedRowsModel" = some m.cls) (hK : va_K g.1 vwCl (xg_t g) s) (hP : va_P g.1 vwCl ws H) (hD : va_D A ws) (hS : va_S A s.heap H locs) (q0 : Nat) {fs : List Value} (he : ws[q0]? = some (oc_o a 11 fs)) {v : Value} (hn : narrow (.array .int) v = v) (hfit : fits (.array .int) v = true) (hl : 25 < fs.length) (hdg : decode cc pc = .ok (.putfield 53, 3)) (kk : ∀ (H1 : Heap) (locs1 : List Loc), va_P g.1 vwCl (ws.set q0 (oc_o a 11 (fs.set 25 v))) H1 → va_D A (ws.set q0 (oc_o a 11 (fs.set 25 v))) → va_S A s.heap H1 locs1 → W p l e R s m args below meth c H1 locs1 cells slots Q (F0 m (pc + 3) ls rest)) : W p l e R s m args below meth c H locs cells slots Q (F0 m pc ls (v :: .ref a :: rest)) :=
  va_putF (C := "StackedRowsModel") (T := tk_T11) (N := 32) hx hb hts fi_MO tk_y11 tk_o11 tk_n11 hown hK hP hD hS q0 he rfl 25 (by decide) (hts _ fl_MO_53) (fun _ h9 => h9) rfl hin rfl (by decide +kernel) hn hfit hl hdg kk
theorem pf_MO_56 (hin : meth.name = "<init>") (hx : p.tables.exec = Jvm.exec) (hb : c.code = cc) (hts : ∀ w ∈ xt_T, w.before args s = true) (hown : s.vm.findClass "StackedRowsModel" = some m.cls) (hK : va_K g.1 vwCl (xg_t g) s) (hP : va_P g.1 vwCl ws H) (hD : va_D A ws) (hS : va_S A s.heap H locs) (q0 : Nat) {fs : List Value} (he : ws[q0]? = some (oc_o a 11 fs)) {v : Value} (hn : narrow (.array .int) v = v) (hfit : fits (.array .int) v = true) (hl : 26 < fs.length) (hdg : decode cc pc = .ok (.putfield 56, 3)) (kk : ∀ (H1 : Heap) (locs1 : List Loc), va_P g.1 vwCl (ws.set q0 (oc_o a 11 (fs.set 26 v))) H1 → va_D A (ws.set q0 (oc_o a 11 (fs.set 26 v))) → va_S A s.heap H1 locs1 → W p l e R s m args below meth c H1 locs1 cells slots Q (F0 m (pc + 3) ls rest)) : W p l e R s m args below meth c H locs cells slots Q (F0 m pc ls (v :: .ref a :: rest)) :=
  va_putF (C := "StackedRowsModel") (T := tk_T11) (N := 32) hx hb hts fi_MO tk_y11 tk_o11 tk_n11 hown hK hP hD hS q0 he rfl 26 (by decide) (hts _ fl_MO_56) (fun _ h9 => h9) rfl hin rfl (by decide +kernel) hn hfit hl hdg kk
theorem fl_MO_59 : Cond.fieldLink "StackedRowsModel" 59 "StackedRowsModel" "isWrong" "[Z" ∈ xt_T := xt_in (List.mem_of_getElem? (i := 1092) (by decide +kernel)) (by decide +kernel)
theorem pf_MO_59 (hin : meth.name = "<init>") (hx : p.tables.exec = Jvm.exec) (hb : c.code = cc) (hts : ∀ w ∈ xt_T, w.before args s = true) (hown : s.vm.findClass "StackedRowsModel" = some m.cls) (hK : va_K g.1 vwCl (xg_t g) s) (hP : va_P g.1 vwCl ws H) (hD : va_D A ws) (hS : va_S A s.heap H locs) (q0 : Nat) {fs : List Value} (he : ws[q0]? = some (oc_o a 11 fs)) {v : Value} (hn : narrow (.array .boolean) v = v) (hfit : fits (.array .boolean) v = true) (hl : 27 < fs.length) (hdg : decode cc pc = .ok (.putfield 59, 3)) (kk : ∀ (H1 : Heap) (locs1 : List Loc), va_P g.1 vwCl (ws.set q0 (oc_o a 11 (fs.set 27 v))) H1 → va_D A (ws.set q0 (oc_o a 11 (fs.set 27 v))) → va_S A s.heap H1 locs1 → W p l e R s m args below meth c H1 locs1 cells slots Q (F0 m (pc + 3) ls rest)) : W p l e R s m args below meth c H locs cells slots Q (F0 m pc ls (v :: .ref a :: rest)) :=
  va_putF (C := "StackedRowsModel") (T := tk_T11) (N := 32) hx hb hts fi_MO tk_y11 tk_o11 tk_n11 hown hK hP hD hS q0 he rfl 27 (by decide) (hts _ fl_MO_59) (fun _ h9 => h9) rfl hin rfl (by decide +kernel) hn hfit hl hdg kk
theorem fl_MO_62 : Cond.fieldLink "StackedRowsModel" 62 "StackedRowsModel" "out" "[I" ∈ xt_T := xt_in (List.mem_of_getElem? (i := 1093) (by decide +kernel)) (by decide +kernel)
theorem pf_MO_62 (hin : meth.name = "<init>") (hx : p.tables.exec = Jvm.exec) (hb : c.code = cc) (hts : ∀ w ∈ xt_T, w.before args s = true) (hown : s.vm.findClass "StackedRowsModel" = some m.cls) (hK : va_K g.1 vwCl (xg_t g) s) (hP : va_P g.1 vwCl ws H) (hD : va_D A ws) (hS : va_S A s.heap H locs) (q0 : Nat) {fs : List Value} (he : ws[q0]? = some (oc_o a 11 fs)) {v : Value} (hn : narrow (.array .int) v = v) (hfit : fits (.array .int) v = true) (hl : 28 < fs.length) (hdg : decode cc pc = .ok (.putfield 62, 3)) (kk : ∀ (H1 : Heap) (locs1 : List Loc), va_P g.1 vwCl (ws.set q0 (oc_o a 11 (fs.set 28 v))) H1 → va_D A (ws.set q0 (oc_o a 11 (fs.set 28 v))) → va_S A s.heap H1 locs1 → W p l e R s m args below meth c H1 locs1 cells slots Q (F0 m (pc + 3) ls rest)) : W p l e R s m args below meth c H locs cells slots Q (F0 m pc ls (v :: .ref a :: rest)) :=
  va_putF (C := "StackedRowsModel") (T := tk_T11) (N := 32) hx hb hts fi_MO tk_y11 tk_o11 tk_n11 hown hK hP hD hS q0 he rfl 28 (by decide) (hts _ fl_MO_62) (fun _ h9 => h9) rfl hin rfl (by decide +kernel) hn hfit hl hdg kk
theorem fl_MO_65 : Cond.fieldLink "StackedRowsModel" 65 "StackedRowsModel" "digits" "[I" ∈ xt_T := xt_in (List.mem_of_getElem? (i := 1095) (by decide +kernel)) (by decide +kernel)
theorem pf_MO_65 (hin : meth.name = "<init>") (hx : p.tables.exec = Jvm.exec) (hb : c.code = cc) (hts : ∀ w ∈ xt_T, w.before args s = true) (hown : s.vm.findClass "StackedRowsModel" = some m.cls) (hK : va_K g.1 vwCl (xg_t g) s) (hP : va_P g.1 vwCl ws H) (hD : va_D A ws) (hS : va_S A s.heap H locs) (q0 : Nat) {fs : List Value} (he : ws[q0]? = some (oc_o a 11 fs)) {v : Value} (hn : narrow (.array .int) v = v) (hfit : fits (.array .int) v = true) (hl : 30 < fs.length) (hdg : decode cc pc = .ok (.putfield 65, 3)) (kk : ∀ (H1 : Heap) (locs1 : List Loc), va_P g.1 vwCl (ws.set q0 (oc_o a 11 (fs.set 30 v))) H1 → va_D A (ws.set q0 (oc_o a 11 (fs.set 30 v))) → va_S A s.heap H1 locs1 → W p l e R s m args below meth c H1 locs1 cells slots Q (F0 m (pc + 3) ls rest)) : W p l e R s m args below meth c H locs cells slots Q (F0 m pc ls (v :: .ref a :: rest)) :=
  va_putF (C := "StackedRowsModel") (T := tk_T11) (N := 32) hx hb hts fi_MO tk_y11 tk_o11 tk_n11 hown hK hP hD hS q0 he rfl 30 (by decide) (hts _ fl_MO_65) (fun _ h9 => h9) rfl hin rfl (by decide +kernel) hn hfit hl hdg kk
theorem pf_MO_68 (hx : p.tables.exec = Jvm.exec) (hb : c.code = cc) (hts : ∀ w ∈ xt_T, w.before args s = true) (hown : s.vm.findClass "StackedRowsModel" = some m.cls) (hK : va_K g.1 vwCl (xg_t g) s) (hP : va_P g.1 vwCl ws H) (hD : va_D A ws) (hS : va_S A s.heap H locs) (q0 : Nat) {fs : List Value} (he : ws[q0]? = some (oc_o a 11 fs)) {v : Value} (hn : narrow (.int) v = v) (hfit : fits (.int) v = true) (hl : 0 < fs.length) (hdg : decode cc pc = .ok (.putfield 68, 3)) (kk : ∀ (H1 : Heap) (locs1 : List Loc), va_P g.1 vwCl (ws.set q0 (oc_o a 11 (fs.set 0 v))) H1 → va_D A (ws.set q0 (oc_o a 11 (fs.set 0 v))) → va_S A s.heap H1 locs1 → W p l e R s m args below meth c H1 locs1 cells slots Q (F0 m (pc + 3) ls rest)) : W p l e R s m args below meth c H locs cells slots Q (F0 m pc ls (v :: .ref a :: rest)) :=
  va_put (C := "StackedRowsModel") (T := tk_T11) (N := 32) hx hb hts fi_MO tk_y11 tk_o11 tk_n11 hown hK hP hD hS q0 he rfl 0 (by decide) (hts _ fl_MO_68) (fun _ h9 => h9) rfl (by decide +kernel) hn hfit hl hdg kk
theorem pf_MO_7 (hin : meth.name = "<init>") (hx : p.tables.exec = Jvm.exec) (hb : c.code = cc) (hts : ∀ w ∈ xt_T, w.before args s = true) (hown : s.vm.findClass "StackedRowsModel" = some m.cls) (hK : va_K g.1 vwCl (xg_t g) s) (hP : va_P g.1 vwCl ws H) (hD : va_D A ws) (hS : va_S A s.heap H locs) (q0 : Nat) {fs : List Value} (he : ws[q0]? = some (oc_o a 11 fs)) {v : Value} (hn : narrow (.array .int) v = v) (hfit : fits (.array .int) v = true) (hl : 1 < fs.length) (hdg : decode cc pc = .ok (.putfield 7, 3)) (kk : ∀ (H1 : Heap) (locs1 : List Loc), va_P g.1 vwCl (ws.set q0 (oc_o a 11 (fs.set 1 v))) H1 → va_D A (ws.set q0 (oc_o a 11 (fs.set 1 v))) → va_S A s.heap H1 locs1 → W p l e R s m args below meth c H1 locs1 cells slots Q (F0 m (pc + 3) ls rest)) : W p l e R s m args below meth c H locs cells slots Q (F0 m pc ls (v :: .ref a :: rest)) :=
  va_putF (C := "StackedRowsModel") (T := tk_T11) (N := 32) hx hb hts fi_MO tk_y11 tk_o11 tk_n11 hown hK hP hD hS q0 he rfl 1 (by decide) (hts _ fl_MO_7) (fun _ h9 => h9) rfl hin rfl (by decide +kernel) hn hfit hl hdg kk
theorem pf_MO_72 (hx : p.tables.exec = Jvm.exec) (hb : c.code = cc) (hts : ∀ w ∈ xt_T, w.before args s = true) (hown : s.vm.findClass "StackedRowsModel" = some m.cls) (hK : va_K g.1 vwCl (xg_t g) s) (hP : va_P g.1 vwCl ws H) (hD : va_D A ws) (hS : va_S A s.heap H locs) (q0 : Nat) {fs : List Value} (he : ws[q0]? = some (oc_o a 11 fs)) {v : Value} (hn : narrow (.int) v = v) (hfit : fits (.int) v = true) (hl : 2 < fs.length) (hdg : decode cc pc = .ok (.putfield 72, 3)) (kk : ∀ (H1 : Heap) (locs1 : List Loc), va_P g.1 vwCl (ws.set q0 (oc_o a 11 (fs.set 2 v))) H1 → va_D A (ws.set q0 (oc_o a 11 (fs.set 2 v))) → va_S A s.heap H1 locs1 → W p l e R s m args below meth c H1 locs1 cells slots Q (F0 m (pc + 3) ls rest)) : W p l e R s m args below meth c H locs cells slots Q (F0 m pc ls (v :: .ref a :: rest)) :=
  va_put (C := "StackedRowsModel") (T := tk_T11) (N := 32) hx hb hts fi_MO tk_y11 tk_o11 tk_n11 hown hK hP hD hS q0 he rfl 2 (by decide) (hts _ fl_MO_72) (fun _ h9 => h9) rfl (by decide +kernel) hn hfit hl hdg kk
theorem pf_MO_89 (hx : p.tables.exec = Jvm.exec) (hb : c.code = cc) (hts : ∀ w ∈ xt_T, w.before args s = true) (hown : s.vm.findClass "StackedRowsModel" = some m.cls) (hK : va_K g.1 vwCl (xg_t g) s) (hP : va_P g.1 vwCl ws H) (hD : va_D A ws) (hS : va_S A s.heap H locs) (q0 : Nat) {fs : List Value} (he : ws[q0]? = some (oc_o a 11 fs)) {v : Value} (hn : narrow (.int) v = v) (hfit : fits (.int) v = true) (hl : 4 < fs.length) (hdg : decode cc pc = .ok (.putfield 89, 3)) (kk : ∀ (H1 : Heap) (locs1 : List Loc), va_P g.1 vwCl (ws.set q0 (oc_o a 11 (fs.set 4 v))) H1 → va_D A (ws.set q0 (oc_o a 11 (fs.set 4 v))) → va_S A s.heap H1 locs1 → W p l e R s m args below meth c H1 locs1 cells slots Q (F0 m (pc + 3) ls rest)) : W p l e R s m args below meth c H locs cells slots Q (F0 m pc ls (v :: .ref a :: rest)) :=
  va_put (C := "StackedRowsModel") (T := tk_T11) (N := 32) hx hb hts fi_MO tk_y11 tk_o11 tk_n11 hown hK hP hD hS q0 he rfl 4 (by decide) (hts _ fl_MO_89) (fun _ h9 => h9) rfl (by decide +kernel) hn hfit hl hdg kk
end XX
end
section
theorem dd_TP_init_0 : decode cd_TP_init 0 = .ok (.aload_n 0, 1) := by decide +kernel
theorem dd_TP_init_1 : decode cd_TP_init 1 = .ok (.invokespecial 3, 3) := by decide +kernel
theorem dd_TP_init_4 : decode cd_TP_init 4 = .ok (.aload_n 0, 1) := by decide +kernel
theorem dd_TP_init_5 : decode cd_TP_init 5 = .ok (.sipush 1200, 3) := by decide +kernel
theorem dd_TP_init_8 : decode cd_TP_init 8 = .ok (.newarray .int, 2) := by decide +kernel
theorem dd_TP_init_10 : decode cd_TP_init 10 = .ok (.putfield 9, 3) := by decide +kernel
theorem dd_TP_init_13 : decode cd_TP_init 13 = .ok (.aload_n 0, 1) := by decide +kernel
theorem dd_TP_init_14 : decode cd_TP_init 14 = .ok (.iconst 0, 1) := by decide +kernel
theorem dd_TP_init_15 : decode cd_TP_init 15 = .ok (.putfield 15, 3) := by decide +kernel
theorem dd_TP_init_18 : decode cd_TP_init 18 = .ok (.return_, 1) := by decide +kernel
theorem dd_TP_size_0 : decode cd_TP_size 0 = .ok (.aload_n 0, 1) := by decide +kernel
theorem dd_TP_size_1 : decode cd_TP_size 1 = .ok (.getfield 15, 3) := by decide +kernel
theorem dd_TP_size_4 : decode cd_TP_size 4 = .ok (.ireturn, 1) := by decide +kernel
theorem dd_TP_add_0 : decode cd_TP_add 0 = .ok (.aload_n 0, 1) := by decide +kernel
theorem dd_TP_add_1 : decode cd_TP_add 1 = .ok (.getfield 15, 3) := by decide +kernel
theorem dd_TP_add_4 : decode cd_TP_add 4 = .ok (.sipush 1200, 3) := by decide +kernel
theorem dd_TP_add_7 : decode cd_TP_add 7 = .ok (.if_icmp .ge 13, 3) := by decide +kernel
theorem dd_TP_add_10 : decode cd_TP_add 10 = .ok (.aload_n 0, 1) := by decide +kernel
theorem dd_TP_add_11 : decode cd_TP_add 11 = .ok (.getfield 9, 3) := by decide +kernel
theorem dd_TP_add_14 : decode cd_TP_add 14 = .ok (.aload_n 0, 1) := by decide +kernel
theorem dd_TP_add_15 : decode cd_TP_add 15 = .ok (.getfield 15, 3) := by decide +kernel
theorem dd_TP_add_18 : decode cd_TP_add 18 = .ok (.iload_n 1, 1) := by decide +kernel
theorem dd_TP_add_19 : decode cd_TP_add 19 = .ok (.iastore, 1) := by decide +kernel
theorem dd_TP_add_20 : decode cd_TP_add 20 = .ok (.aload_n 0, 1) := by decide +kernel
theorem dd_TP_add_21 : decode cd_TP_add 21 = .ok (.dup, 1) := by decide +kernel
theorem dd_TP_add_22 : decode cd_TP_add 22 = .ok (.getfield 15, 3) := by decide +kernel
theorem dd_TP_add_25 : decode cd_TP_add 25 = .ok (.iconst 1, 1) := by decide +kernel
theorem dd_TP_add_26 : decode cd_TP_add 26 = .ok (.iadd, 1) := by decide +kernel
theorem dd_TP_add_27 : decode cd_TP_add 27 = .ok (.putfield 15, 3) := by decide +kernel
theorem dd_TP_add_30 : decode cd_TP_add 30 = .ok (.return_, 1) := by decide +kernel
theorem dd_TP_addFour_0 : decode cd_TP_addFour 0 = .ok (.bipush 24, 2) := by decide +kernel
theorem dd_TP_addFour_2 : decode cd_TP_addFour 2 = .ok (.istore_n 2, 1) := by decide +kernel
theorem dd_TP_addFour_3 : decode cd_TP_addFour 3 = .ok (.iload_n 2, 1) := by decide +kernel
theorem dd_TP_addFour_4 : decode cd_TP_addFour 4 = .ok (.ifCond .lt 20, 3) := by decide +kernel
theorem dd_TP_addFour_7 : decode cd_TP_addFour 7 = .ok (.aload_n 0, 1) := by decide +kernel
theorem dd_TP_addFour_8 : decode cd_TP_addFour 8 = .ok (.iload_n 1, 1) := by decide +kernel
theorem dd_TP_addFour_9 : decode cd_TP_addFour 9 = .ok (.iload_n 2, 1) := by decide +kernel
theorem dd_TP_addFour_10 : decode cd_TP_addFour 10 = .ok (.ishr, 1) := by decide +kernel
theorem dd_TP_addFour_11 : decode cd_TP_addFour 11 = .ok (.sipush 255, 3) := by decide +kernel
theorem dd_TP_addFour_14 : decode cd_TP_addFour 14 = .ok (.iand, 1) := by decide +kernel
theorem dd_TP_addFour_15 : decode cd_TP_addFour 15 = .ok (.invokevirtual 19, 3) := by decide +kernel
theorem dd_TP_addFour_18 : decode cd_TP_addFour 18 = .ok (.iinc 2 (-8), 3) := by decide +kernel
theorem dd_TP_addFour_21 : decode cd_TP_addFour 21 = .ok (.goto (-18), 3) := by decide +kernel
theorem dd_TP_addFour_24 : decode cd_TP_addFour 24 = .ok (.return_, 1) := by decide +kernel
theorem dd_TP_cut_0 : decode cd_TP_cut 0 = .ok (.aload_n 0, 1) := by decide +kernel
theorem dd_TP_cut_1 : decode cd_TP_cut 1 = .ok (.iload_n 1, 1) := by decide +kernel
theorem dd_TP_cut_2 : decode cd_TP_cut 2 = .ok (.putfield 15, 3) := by decide +kernel
theorem dd_TP_cut_5 : decode cd_TP_cut 5 = .ok (.return_, 1) := by decide +kernel
theorem dd_CW_init_0 : decode cd_CW_init 0 = .ok (.aload_n 0, 1) := by decide +kernel
theorem dd_CW_init_1 : decode cd_CW_init 1 = .ok (.invokespecial 3, 3) := by decide +kernel
theorem dd_CW_init_4 : decode cd_CW_init 4 = .ok (.aload_n 0, 1) := by decide +kernel
theorem dd_CW_init_5 : decode cd_CW_init 5 = .ok (.sipush 2400, 3) := by decide +kernel
theorem dd_CW_init_8 : decode cd_CW_init 8 = .ok (.newarray .int, 2) := by decide +kernel
theorem dd_CW_init_10 : decode cd_CW_init 10 = .ok (.putfield 9, 3) := by decide +kernel
theorem dd_CW_init_13 : decode cd_CW_init 13 = .ok (.aload_n 0, 1) := by decide +kernel
theorem dd_CW_init_14 : decode cd_CW_init 14 = .ok (.iconst 0, 1) := by decide +kernel
theorem dd_CW_init_15 : decode cd_CW_init 15 = .ok (.putfield 15, 3) := by decide +kernel
theorem dd_CW_init_18 : decode cd_CW_init 18 = .ok (.return_, 1) := by decide +kernel
theorem dd_CW_size_0 : decode cd_CW_size 0 = .ok (.aload_n 0, 1) := by decide +kernel
theorem dd_CW_size_1 : decode cd_CW_size 1 = .ok (.getfield 15, 3) := by decide +kernel
theorem dd_CW_size_4 : decode cd_CW_size 4 = .ok (.ireturn, 1) := by decide +kernel
theorem dd_CW_clear_0 : decode cd_CW_clear 0 = .ok (.aload_n 0, 1) := by decide +kernel
theorem dd_CW_clear_1 : decode cd_CW_clear 1 = .ok (.iconst 0, 1) := by decide +kernel
theorem dd_CW_clear_2 : decode cd_CW_clear 2 = .ok (.putfield 15, 3) := by decide +kernel
theorem dd_CW_clear_5 : decode cd_CW_clear 5 = .ok (.return_, 1) := by decide +kernel
theorem dd_BN_init_0 : decode cd_BN_init 0 = .ok (.aload_n 0, 1) := by decide +kernel
theorem dd_BN_init_1 : decode cd_BN_init 1 = .ok (.invokespecial 1, 3) := by decide +kernel
theorem dd_BN_init_4 : decode cd_BN_init 4 = .ok (.aload_n 0, 1) := by decide +kernel
theorem dd_BN_init_5 : decode cd_BN_init 5 = .ok (.iload_n 1, 1) := by decide +kernel
theorem dd_BN_init_6 : decode cd_BN_init 6 = .ok (.iconst 2, 1) := by decide +kernel
theorem dd_BN_init_7 : decode cd_BN_init 7 = .ok (.invokestatic 7, 3) := by decide +kernel
theorem dd_BN_init_10 : decode cd_BN_init 10 = .ok (.putfield 13, 3) := by decide +kernel
theorem dd_BN_init_13 : decode cd_BN_init 13 = .ok (.aload_n 0, 1) := by decide +kernel
theorem dd_BN_init_14 : decode cd_BN_init 14 = .ok (.iload_n 2, 1) := by decide +kernel
theorem dd_BN_init_15 : decode cd_BN_init 15 = .ok (.iconst 1, 1) := by decide +kernel
theorem dd_BN_init_16 : decode cd_BN_init 16 = .ok (.invokestatic 7, 3) := by decide +kernel
theorem dd_BN_init_19 : decode cd_BN_init 19 = .ok (.newarray .int, 2) := by decide +kernel
theorem dd_BN_init_21 : decode cd_BN_init 21 = .ok (.putfield 19, 3) := by decide +kernel
theorem dd_BN_init_24 : decode cd_BN_init 24 = .ok (.return_, 1) := by decide +kernel
theorem dd_TW_init_0 : decode cd_TW_init 0 = .ok (.aload_n 0, 1) := by decide +kernel
theorem dd_TW_init_1 : decode cd_TW_init 1 = .ok (.invokespecial 3, 3) := by decide +kernel
theorem dd_TW_init_4 : decode cd_TW_init 4 = .ok (.aload_n 0, 1) := by decide +kernel
theorem dd_TW_init_5 : decode cd_TW_init 5 = .ok (.aload_n 1, 1) := by decide +kernel
theorem dd_TW_init_6 : decode cd_TW_init 6 = .ok (.putfield 9, 3) := by decide +kernel
theorem dd_TW_init_9 : decode cd_TW_init 9 = .ok (.aload_n 0, 1) := by decide +kernel
theorem dd_TW_init_10 : decode cd_TW_init 10 = .ok (.getstatic 15, 3) := by decide +kernel
theorem dd_TW_init_13 : decode cd_TW_init 13 = .ok (.putfield 21, 3) := by decide +kernel
theorem dd_TW_init_16 : decode cd_TW_init 16 = .ok (.aload_n 0, 1) := by decide +kernel
theorem dd_TW_init_17 : decode cd_TW_init 17 = .ok (.iconst (-1), 1) := by decide +kernel
theorem dd_TW_init_18 : decode cd_TW_init 18 = .ok (.putfield 24, 3) := by decide +kernel
theorem dd_TW_init_21 : decode cd_TW_init 21 = .ok (.return_, 1) := by decide +kernel
theorem dd_TW_beginWithCapitals_0 : decode cd_TW_beginWithCapitals 0 = .ok (.aload_n 0, 1) := by decide +kernel
theorem dd_TW_beginWithCapitals_1 : decode cd_TW_beginWithCapitals 1 = .ok (.getstatic 15, 3) := by decide +kernel
theorem dd_TW_beginWithCapitals_4 : decode cd_TW_beginWithCapitals 4 = .ok (.putfield 21, 3) := by decide +kernel
theorem dd_TW_beginWithCapitals_7 : decode cd_TW_beginWithCapitals 7 = .ok (.return_, 1) := by decide +kernel
theorem dd_WR_init_0 : decode cd_WR_init 0 = .ok (.aload_n 0, 1) := by decide +kernel
theorem dd_WR_init_1 : decode cd_WR_init 1 = .ok (.invokespecial 3, 3) := by decide +kernel
theorem dd_WR_init_4 : decode cd_WR_init 4 = .ok (.aload_n 0, 1) := by decide +kernel
theorem dd_WR_init_5 : decode cd_WR_init 5 = .ok (.aload_n 1, 1) := by decide +kernel
theorem dd_WR_init_6 : decode cd_WR_init 6 = .ok (.putfield 9, 3) := by decide +kernel
theorem dd_WR_init_9 : decode cd_WR_init 9 = .ok (.aload_n 0, 1) := by decide +kernel
theorem dd_WR_init_10 : decode cd_WR_init 10 = .ok (.new 15, 3) := by decide +kernel
theorem dd_WR_init_13 : decode cd_WR_init 13 = .ok (.dup, 1) := by decide +kernel
theorem dd_WR_init_14 : decode cd_WR_init 14 = .ok (.invokespecial 17, 3) := by decide +kernel
theorem dd_WR_init_17 : decode cd_WR_init 17 = .ok (.putfield 18, 3) := by decide +kernel
theorem dd_WR_init_20 : decode cd_WR_init 20 = .ok (.aload_n 0, 1) := by decide +kernel
theorem dd_WR_init_21 : decode cd_WR_init 21 = .ok (.new 22, 3) := by decide +kernel
theorem dd_WR_init_24 : decode cd_WR_init 24 = .ok (.dup, 1) := by decide +kernel
theorem dd_WR_init_25 : decode cd_WR_init 25 = .ok (.aload_n 0, 1) := by decide +kernel
theorem dd_WR_init_26 : decode cd_WR_init 26 = .ok (.getfield 18, 3) := by decide +kernel
theorem dd_WR_init_29 : decode cd_WR_init 29 = .ok (.invokespecial 24, 3) := by decide +kernel
theorem dd_WR_init_32 : decode cd_WR_init 32 = .ok (.putfield 27, 3) := by decide +kernel
theorem dd_WR_init_35 : decode cd_WR_init 35 = .ok (.aload_n 0, 1) := by decide +kernel
theorem dd_WR_init_36 : decode cd_WR_init 36 = .ok (.new 31, 3) := by decide +kernel
theorem dd_WR_init_39 : decode cd_WR_init 39 = .ok (.dup, 1) := by decide +kernel
theorem dd_WR_init_40 : decode cd_WR_init 40 = .ok (.sipush 900, 3) := by decide +kernel
theorem dd_WR_init_43 : decode cd_WR_init 43 = .ok (.bipush 15, 2) := by decide +kernel
theorem dd_WR_init_45 : decode cd_WR_init 45 = .ok (.invokespecial 33, 3) := by decide +kernel
theorem dd_WR_init_48 : decode cd_WR_init 48 = .ok (.putfield 36, 3) := by decide +kernel
theorem dd_WR_init_51 : decode cd_WR_init 51 = .ok (.aload_n 0, 1) := by decide +kernel
theorem dd_WR_init_52 : decode cd_WR_init 52 = .ok (.sipush 1201, 3) := by decide +kernel
theorem dd_WR_init_55 : decode cd_WR_init 55 = .ok (.newarray .int, 2) := by decide +kernel
theorem dd_WR_init_57 : decode cd_WR_init 57 = .ok (.putfield 40, 3) := by decide +kernel
theorem dd_WR_init_60 : decode cd_WR_init 60 = .ok (.aload_n 0, 1) := by decide +kernel
theorem dd_WR_init_61 : decode cd_WR_init 61 = .ok (.sipush 1201, 3) := by decide +kernel
theorem dd_WR_init_64 : decode cd_WR_init 64 = .ok (.newarray .int, 2) := by decide +kernel
theorem dd_WR_init_66 : decode cd_WR_init 66 = .ok (.putfield 44, 3) := by decide +kernel
theorem dd_WR_init_69 : decode cd_WR_init 69 = .ok (.aload_n 0, 1) := by decide +kernel
theorem dd_WR_init_70 : decode cd_WR_init 70 = .ok (.sipush 900, 3) := by decide +kernel
theorem dd_WR_init_73 : decode cd_WR_init 73 = .ok (.putfield 47, 3) := by decide +kernel
theorem dd_WR_init_76 : decode cd_WR_init 76 = .ok (.aload_n 0, 1) := by decide +kernel
theorem dd_WR_init_77 : decode cd_WR_init 77 = .ok (.iconst 0, 1) := by decide +kernel
theorem dd_WR_init_78 : decode cd_WR_init 78 = .ok (.putfield 51, 3) := by decide +kernel
theorem dd_WR_init_81 : decode cd_WR_init 81 = .ok (.return_, 1) := by decide +kernel
theorem dd_WR_forget_0 : decode cd_WR_forget 0 = .ok (.aload_n 0, 1) := by decide +kernel
theorem dd_WR_forget_1 : decode cd_WR_forget 1 = .ok (.iconst 0, 1) := by decide +kernel
theorem dd_WR_forget_2 : decode cd_WR_forget 2 = .ok (.putfield 51, 3) := by decide +kernel
theorem dd_WR_forget_5 : decode cd_WR_forget 5 = .ok (.return_, 1) := by decide +kernel
theorem dd_WR_size_0 : decode cd_WR_size 0 = .ok (.aload_n 0, 1) := by decide +kernel
theorem dd_WR_size_1 : decode cd_WR_size 1 = .ok (.getfield 18, 3) := by decide +kernel
theorem dd_WR_size_4 : decode cd_WR_size 4 = .ok (.invokevirtual 55, 3) := by decide +kernel
theorem dd_WR_size_7 : decode cd_WR_size 7 = .ok (.ireturn, 1) := by decide +kernel
theorem dd_WR_measure_0 : decode cd_WR_measure 0 = .ok (.aload_n 0, 1) := by decide +kernel
theorem dd_WR_measure_1 : decode cd_WR_measure 1 = .ok (.getfield 40, 3) := by decide +kernel
theorem dd_WR_measure_4 : decode cd_WR_measure 4 = .ok (.iload_n 1, 1) := by decide +kernel
theorem dd_WR_measure_5 : decode cd_WR_measure 5 = .ok (.iconst 0, 1) := by decide +kernel
theorem dd_WR_measure_6 : decode cd_WR_measure 6 = .ok (.iastore, 1) := by decide +kernel
theorem dd_WR_measure_7 : decode cd_WR_measure 7 = .ok (.aload_n 0, 1) := by decide +kernel
theorem dd_WR_measure_8 : decode cd_WR_measure 8 = .ok (.getfield 44, 3) := by decide +kernel
theorem dd_WR_measure_11 : decode cd_WR_measure 11 = .ok (.iload_n 1, 1) := by decide +kernel
theorem dd_WR_measure_12 : decode cd_WR_measure 12 = .ok (.iconst 0, 1) := by decide +kernel
theorem dd_WR_measure_13 : decode cd_WR_measure 13 = .ok (.iastore, 1) := by decide +kernel
theorem dd_WR_measure_14 : decode cd_WR_measure 14 = .ok (.iload_n 1, 1) := by decide +kernel
theorem dd_WR_measure_15 : decode cd_WR_measure 15 = .ok (.iconst 1, 1) := by decide +kernel
theorem dd_WR_measure_16 : decode cd_WR_measure 16 = .ok (.isub, 1) := by decide +kernel
theorem dd_WR_measure_17 : decode cd_WR_measure 17 = .ok (.istore_n 2, 1) := by decide +kernel
theorem dd_WR_measure_18 : decode cd_WR_measure 18 = .ok (.iload_n 2, 1) := by decide +kernel
theorem dd_WR_measure_19 : decode cd_WR_measure 19 = .ok (.ifCond .lt 82, 3) := by decide +kernel
theorem dd_WR_measure_101 : decode cd_WR_measure 101 = .ok (.return_, 1) := by decide +kernel
theorem dd_WR_write_0 : decode cd_WR_write 0 = .ok (.aload_n 0, 1) := by decide +kernel
theorem dd_WR_write_1 : decode cd_WR_write 1 = .ok (.getfield 51, 3) := by decide +kernel
theorem dd_WR_write_4 : decode cd_WR_write 4 = .ok (.ifCond .eq 4, 3) := by decide +kernel
theorem dd_WR_write_8 : decode cd_WR_write 8 = .ok (.aload_n 0, 1) := by decide +kernel
theorem dd_WR_write_9 : decode cd_WR_write 9 = .ok (.iconst 1, 1) := by decide +kernel
theorem dd_WR_write_10 : decode cd_WR_write 10 = .ok (.putfield 51, 3) := by decide +kernel
theorem dd_WR_write_13 : decode cd_WR_write 13 = .ok (.aload_n 0, 1) := by decide +kernel
theorem dd_WR_write_14 : decode cd_WR_write 14 = .ok (.aload_n 0, 1) := by decide +kernel
theorem dd_WR_write_15 : decode cd_WR_write 15 = .ok (.getfield 9, 3) := by decide +kernel
theorem dd_WR_write_18 : decode cd_WR_write 18 = .ok (.invokevirtual 63, 3) := by decide +kernel
theorem dd_WR_write_21 : decode cd_WR_write 21 = .ok (.invokevirtual 66, 3) := by decide +kernel
theorem dd_WR_write_24 : decode cd_WR_write 24 = .ok (.aload_n 0, 1) := by decide +kernel
theorem dd_WR_write_25 : decode cd_WR_write 25 = .ok (.sipush 900, 3) := by decide +kernel
theorem dd_WR_write_28 : decode cd_WR_write 28 = .ok (.putfield 47, 3) := by decide +kernel
theorem dd_WR_write_31 : decode cd_WR_write 31 = .ok (.aload_n 0, 1) := by decide +kernel
theorem dd_WR_write_32 : decode cd_WR_write 32 = .ok (.getfield 27, 3) := by decide +kernel
theorem dd_WR_write_35 : decode cd_WR_write 35 = .ok (.invokevirtual 70, 3) := by decide +kernel
theorem dd_WR_write_38 : decode cd_WR_write 38 = .ok (.aload_n 0, 1) := by decide +kernel
theorem dd_WR_write_39 : decode cd_WR_write 39 = .ok (.getfield 18, 3) := by decide +kernel
theorem dd_WR_write_42 : decode cd_WR_write 42 = .ok (.invokevirtual 73, 3) := by decide +kernel
theorem dd_WR_write_45 : decode cd_WR_write 45 = .ok (.iconst 0, 1) := by decide +kernel
theorem dd_WR_write_46 : decode cd_WR_write 46 = .ok (.istore_n 1, 1) := by decide +kernel
theorem dd_WR_write_47 : decode cd_WR_write 47 = .ok (.iconst 0, 1) := by decide +kernel
theorem dd_WR_write_48 : decode cd_WR_write 48 = .ok (.istore_n 2, 1) := by decide +kernel
theorem dd_WR_write_49 : decode cd_WR_write 49 = .ok (.iload_n 2, 1) := by decide +kernel
theorem dd_WR_write_50 : decode cd_WR_write 50 = .ok (.aload_n 0, 1) := by decide +kernel
theorem dd_WR_write_51 : decode cd_WR_write 51 = .ok (.getfield 9, 3) := by decide +kernel
theorem dd_WR_write_54 : decode cd_WR_write 54 = .ok (.invokevirtual 63, 3) := by decide +kernel
theorem dd_WR_write_57 : decode cd_WR_write 57 = .ok (.if_icmp .ge 26, 3) := by decide +kernel
theorem dd_WR_write_83 : decode cd_WR_write 83 = .ok (.return_, 1) := by decide +kernel
theorem dd_SY_init_0 : decode cd_SY_init 0 = .ok (.aload_n 0, 1) := by decide +kernel
theorem dd_SY_init_1 : decode cd_SY_init 1 = .ok (.invokespecial 3, 3) := by decide +kernel
theorem dd_SY_init_4 : decode cd_SY_init 4 = .ok (.aload_n 0, 1) := by decide +kernel
theorem dd_SY_init_5 : decode cd_SY_init 5 = .ok (.sipush 1108, 3) := by decide +kernel
theorem dd_SY_init_8 : decode cd_SY_init 8 = .ok (.newarray .int, 2) := by decide +kernel
theorem dd_SY_init_10 : decode cd_SY_init 10 = .ok (.putfield 9, 3) := by decide +kernel
theorem dd_SY_init_13 : decode cd_SY_init 13 = .ok (.aload_n 0, 1) := by decide +kernel
theorem dd_SY_init_14 : decode cd_SY_init 14 = .ok (.iconst 0, 1) := by decide +kernel
theorem dd_SY_init_15 : decode cd_SY_init 15 = .ok (.putfield 15, 3) := by decide +kernel
theorem dd_SY_init_18 : decode cd_SY_init 18 = .ok (.aload_n 0, 1) := by decide +kernel
theorem dd_SY_init_19 : decode cd_SY_init 19 = .ok (.iconst 0, 1) := by decide +kernel
theorem dd_SY_init_20 : decode cd_SY_init 20 = .ok (.putfield 19, 3) := by decide +kernel
theorem dd_SY_init_23 : decode cd_SY_init 23 = .ok (.return_, 1) := by decide +kernel
theorem dd_SY_isThere_0 : decode cd_SY_isThere 0 = .ok (.aload_n 0, 1) := by decide +kernel
theorem dd_SY_isThere_1 : decode cd_SY_isThere 1 = .ok (.getfield 15, 3) := by decide +kernel
theorem dd_SY_isThere_4 : decode cd_SY_isThere 4 = .ok (.ifCond .le 7, 3) := by decide +kernel
theorem dd_SY_isThere_11 : decode cd_SY_isThere 11 = .ok (.iconst 0, 1) := by decide +kernel
theorem dd_SY_isThere_12 : decode cd_SY_isThere 12 = .ok (.ireturn, 1) := by decide +kernel
theorem dd_SY_rows_0 : decode cd_SY_rows 0 = .ok (.aload_n 0, 1) := by decide +kernel
theorem dd_SY_rows_1 : decode cd_SY_rows 1 = .ok (.getfield 15, 3) := by decide +kernel
theorem dd_SY_rows_4 : decode cd_SY_rows 4 = .ok (.ireturn, 1) := by decide +kernel
theorem dd_SY_columns_0 : decode cd_SY_columns 0 = .ok (.aload_n 0, 1) := by decide +kernel
theorem dd_SY_columns_1 : decode cd_SY_columns 1 = .ok (.getfield 19, 3) := by decide +kernel
theorem dd_SY_columns_4 : decode cd_SY_columns 4 = .ok (.ireturn, 1) := by decide +kernel
theorem dd_SY_leftKind_0 : decode cd_SY_leftKind 0 = .ok (.iload_n 0, 1) := by decide +kernel
theorem dd_SY_leftKind_1 : decode cd_SY_leftKind 1 = .ok (.iconst 3, 1) := by decide +kernel
theorem dd_SY_leftKind_2 : decode cd_SY_leftKind 2 = .ok (.irem, 1) := by decide +kernel
theorem dd_SY_leftKind_3 : decode cd_SY_leftKind 3 = .ok (.ireturn, 1) := by decide +kernel
theorem dd_SY_rightKind_0 : decode cd_SY_rightKind 0 = .ok (.iload_n 0, 1) := by decide +kernel
theorem dd_SY_rightKind_1 : decode cd_SY_rightKind 1 = .ok (.iconst 2, 1) := by decide +kernel
theorem dd_SY_rightKind_2 : decode cd_SY_rightKind 2 = .ok (.iadd, 1) := by decide +kernel
theorem dd_SY_rightKind_3 : decode cd_SY_rightKind 3 = .ok (.iconst 3, 1) := by decide +kernel
theorem dd_SY_rightKind_4 : decode cd_SY_rightKind 4 = .ok (.irem, 1) := by decide +kernel
theorem dd_SY_rightKind_5 : decode cd_SY_rightKind 5 = .ok (.ireturn, 1) := by decide +kernel
theorem dd_SY_indicated_0 : decode cd_SY_indicated 0 = .ok (.iload_n 1, 1) := by decide +kernel
theorem dd_SY_indicated_1 : decode cd_SY_indicated 1 = .ok (.ifCond .ne 12, 3) := by decide +kernel
theorem dd_SY_indicated_4 : decode cd_SY_indicated 4 = .ok (.aload_n 0, 1) := by decide +kernel
theorem dd_SY_indicated_5 : decode cd_SY_indicated 5 = .ok (.getfield 15, 3) := by decide +kernel
theorem dd_SY_indicated_8 : decode cd_SY_indicated 8 = .ok (.iconst 1, 1) := by decide +kernel
theorem dd_SY_indicated_9 : decode cd_SY_indicated 9 = .ok (.isub, 1) := by decide +kernel
theorem dd_SY_indicated_10 : decode cd_SY_indicated 10 = .ok (.iconst 3, 1) := by decide +kernel
theorem dd_SY_indicated_11 : decode cd_SY_indicated 11 = .ok (.idiv, 1) := by decide +kernel
theorem dd_SY_indicated_12 : decode cd_SY_indicated 12 = .ok (.ireturn, 1) := by decide +kernel
theorem dd_SY_indicated_13 : decode cd_SY_indicated 13 = .ok (.iload_n 1, 1) := by decide +kernel
theorem dd_SY_indicated_14 : decode cd_SY_indicated 14 = .ok (.iconst 1, 1) := by decide +kernel
theorem dd_SY_indicated_15 : decode cd_SY_indicated 15 = .ok (.if_icmp .ne 18, 3) := by decide +kernel
theorem dd_SY_indicated_18 : decode cd_SY_indicated 18 = .ok (.iconst 3, 1) := by decide +kernel
theorem dd_SY_indicated_19 : decode cd_SY_indicated 19 = .ok (.iload_n 2, 1) := by decide +kernel
theorem dd_SY_indicated_20 : decode cd_SY_indicated 20 = .ok (.imul, 1) := by decide +kernel
theorem dd_SY_indicated_21 : decode cd_SY_indicated 21 = .ok (.aload_n 0, 1) := by decide +kernel
theorem dd_SY_indicated_22 : decode cd_SY_indicated 22 = .ok (.getfield 15, 3) := by decide +kernel
theorem dd_SY_indicated_25 : decode cd_SY_indicated 25 = .ok (.iconst 1, 1) := by decide +kernel
theorem dd_SY_indicated_26 : decode cd_SY_indicated 26 = .ok (.isub, 1) := by decide +kernel
theorem dd_SY_indicated_27 : decode cd_SY_indicated 27 = .ok (.iconst 3, 1) := by decide +kernel
theorem dd_SY_indicated_28 : decode cd_SY_indicated 28 = .ok (.irem, 1) := by decide +kernel
theorem dd_SY_indicated_29 : decode cd_SY_indicated 29 = .ok (.iadd, 1) := by decide +kernel
theorem dd_SY_indicated_30 : decode cd_SY_indicated 30 = .ok (.goto 9, 3) := by decide +kernel
theorem dd_SY_indicated_33 : decode cd_SY_indicated 33 = .ok (.aload_n 0, 1) := by decide +kernel
theorem dd_SY_indicated_34 : decode cd_SY_indicated 34 = .ok (.getfield 19, 3) := by decide +kernel
theorem dd_SY_indicated_37 : decode cd_SY_indicated 37 = .ok (.iconst 1, 1) := by decide +kernel
theorem dd_SY_indicated_38 : decode cd_SY_indicated 38 = .ok (.isub, 1) := by decide +kernel
theorem dd_SY_indicated_39 : decode cd_SY_indicated 39 = .ok (.ireturn, 1) := by decide +kernel
theorem dd_SY_has_0 : decode cd_SY_has 0 = .ok (.iload_n 1, 1) := by decide +kernel
theorem dd_SY_has_1 : decode cd_SY_has 1 = .ok (.ifCond .lt 29, 3) := by decide +kernel
theorem dd_SY_has_4 : decode cd_SY_has 4 = .ok (.iload_n 1, 1) := by decide +kernel
theorem dd_SY_has_5 : decode cd_SY_has 5 = .ok (.aload_n 0, 1) := by decide +kernel
theorem dd_SY_has_6 : decode cd_SY_has 6 = .ok (.getfield 15, 3) := by decide +kernel
theorem dd_SY_has_9 : decode cd_SY_has 9 = .ok (.if_icmp .ge 21, 3) := by decide +kernel
theorem dd_SY_has_12 : decode cd_SY_has 12 = .ok (.iload_n 2, 1) := by decide +kernel
theorem dd_SY_has_13 : decode cd_SY_has 13 = .ok (.ifCond .lt 17, 3) := by decide +kernel
theorem dd_SY_has_16 : decode cd_SY_has 16 = .ok (.iload_n 2, 1) := by decide +kernel
theorem dd_SY_has_17 : decode cd_SY_has 17 = .ok (.aload_n 0, 1) := by decide +kernel
theorem dd_SY_has_18 : decode cd_SY_has 18 = .ok (.getfield 19, 3) := by decide +kernel
theorem dd_SY_has_21 : decode cd_SY_has 21 = .ok (.iconst 1, 1) := by decide +kernel
theorem dd_SY_has_22 : decode cd_SY_has 22 = .ok (.iadd, 1) := by decide +kernel
theorem dd_SY_has_23 : decode cd_SY_has 23 = .ok (.if_icmp .gt 7, 3) := by decide +kernel
theorem dd_SY_has_26 : decode cd_SY_has 26 = .ok (.iconst 1, 1) := by decide +kernel
theorem dd_SY_has_27 : decode cd_SY_has 27 = .ok (.goto 4, 3) := by decide +kernel
theorem dd_SY_has_31 : decode cd_SY_has 31 = .ok (.ireturn, 1) := by decide +kernel
theorem dd_SY_set_0 : decode cd_SY_set 0 = .ok (.aload_n 0, 1) := by decide +kernel
theorem dd_SY_set_1 : decode cd_SY_set 1 = .ok (.iload_n 1, 1) := by decide +kernel
theorem dd_SY_set_2 : decode cd_SY_set 2 = .ok (.iload_n 2, 1) := by decide +kernel
theorem dd_SY_set_3 : decode cd_SY_set 3 = .ok (.invokevirtual 28, 3) := by decide +kernel
theorem dd_SY_set_6 : decode cd_SY_set 6 = .ok (.ifCond .eq 19, 3) := by decide +kernel
theorem dd_SY_set_9 : decode cd_SY_set 9 = .ok (.aload_n 0, 1) := by decide +kernel
theorem dd_SY_set_10 : decode cd_SY_set 10 = .ok (.getfield 9, 3) := by decide +kernel
theorem dd_SY_set_13 : decode cd_SY_set 13 = .ok (.iload_n 1, 1) := by decide +kernel
theorem dd_SY_set_14 : decode cd_SY_set 14 = .ok (.aload_n 0, 1) := by decide +kernel
theorem dd_SY_set_15 : decode cd_SY_set 15 = .ok (.getfield 19, 3) := by decide +kernel
theorem dd_SY_set_18 : decode cd_SY_set 18 = .ok (.iconst 2, 1) := by decide +kernel
theorem dd_SY_set_19 : decode cd_SY_set 19 = .ok (.iadd, 1) := by decide +kernel
theorem dd_SY_set_20 : decode cd_SY_set 20 = .ok (.imul, 1) := by decide +kernel
theorem dd_SY_set_21 : decode cd_SY_set 21 = .ok (.iload_n 2, 1) := by decide +kernel
theorem dd_SY_set_22 : decode cd_SY_set 22 = .ok (.iadd, 1) := by decide +kernel
theorem dd_SY_set_23 : decode cd_SY_set 23 = .ok (.iload_n 3, 1) := by decide +kernel
theorem dd_SY_set_24 : decode cd_SY_set 24 = .ok (.iastore, 1) := by decide +kernel
theorem dd_SY_set_25 : decode cd_SY_set 25 = .ok (.return_, 1) := by decide +kernel
theorem dd_AR_fill_0 : decode cd_AR_fill 0 = .ok (.iconst 0, 1) := by decide +kernel
theorem dd_AR_fill_1 : decode cd_AR_fill 1 = .ok (.istore_n 2, 1) := by decide +kernel
theorem dd_AR_fill_2 : decode cd_AR_fill 2 = .ok (.aload_n 0, 1) := by decide +kernel
theorem dd_AR_fill_3 : decode cd_AR_fill 3 = .ok (.arraylength, 1) := by decide +kernel
theorem dd_AR_fill_4 : decode cd_AR_fill 4 = .ok (.istore_n 3, 1) := by decide +kernel
theorem dd_AR_fill_5 : decode cd_AR_fill 5 = .ok (.iload_n 2, 1) := by decide +kernel
theorem dd_AR_fill_6 : decode cd_AR_fill 6 = .ok (.iload_n 3, 1) := by decide +kernel
theorem dd_AR_fill_7 : decode cd_AR_fill 7 = .ok (.if_icmp .ge 13, 3) := by decide +kernel
theorem dd_AR_fill_10 : decode cd_AR_fill 10 = .ok (.aload_n 0, 1) := by decide +kernel
theorem dd_AR_fill_11 : decode cd_AR_fill 11 = .ok (.iload_n 2, 1) := by decide +kernel
theorem dd_AR_fill_12 : decode cd_AR_fill 12 = .ok (.iload_n 1, 1) := by decide +kernel
theorem dd_AR_fill_13 : decode cd_AR_fill 13 = .ok (.iastore, 1) := by decide +kernel
theorem dd_AR_fill_14 : decode cd_AR_fill 14 = .ok (.iinc 2 1, 3) := by decide +kernel
theorem dd_AR_fill_17 : decode cd_AR_fill 17 = .ok (.goto (-12), 3) := by decide +kernel
theorem dd_AR_fill_20 : decode cd_AR_fill 20 = .ok (.return_, 1) := by decide +kernel
theorem dd_SY_begin_0 : decode cd_SY_begin 0 = .ok (.aload_n 0, 1) := by decide +kernel
theorem dd_SY_begin_1 : decode cd_SY_begin 1 = .ok (.iload_n 1, 1) := by decide +kernel
theorem dd_SY_begin_2 : decode cd_SY_begin 2 = .ok (.putfield 15, 3) := by decide +kernel
theorem dd_SY_begin_5 : decode cd_SY_begin 5 = .ok (.aload_n 0, 1) := by decide +kernel
theorem dd_SY_begin_6 : decode cd_SY_begin 6 = .ok (.iload_n 2, 1) := by decide +kernel
theorem dd_SY_begin_7 : decode cd_SY_begin 7 = .ok (.putfield 19, 3) := by decide +kernel
theorem dd_SY_begin_10 : decode cd_SY_begin 10 = .ok (.aload_n 0, 1) := by decide +kernel
theorem dd_SY_begin_11 : decode cd_SY_begin 11 = .ok (.getfield 9, 3) := by decide +kernel
theorem dd_SY_begin_14 : decode cd_SY_begin 14 = .ok (.iconst (-1), 1) := by decide +kernel
theorem dd_SY_begin_15 : decode cd_SY_begin 15 = .ok (.invokestatic 22, 3) := by decide +kernel
theorem dd_SY_begin_18 : decode cd_SY_begin 18 = .ok (.return_, 1) := by decide +kernel
theorem dd_SY_fill_0 : decode cd_SY_fill 0 = .ok (.iconst 0, 1) := by decide +kernel
theorem dd_SY_fill_1 : decode cd_SY_fill 1 = .ok (.istore_n 3, 1) := by decide +kernel
theorem dd_SY_fill_2 : decode cd_SY_fill 2 = .ok (.iload_n 3, 1) := by decide +kernel
theorem dd_SY_fill_3 : decode cd_SY_fill 3 = .ok (.aload_n 0, 1) := by decide +kernel
theorem dd_SY_fill_4 : decode cd_SY_fill 4 = .ok (.getfield 15, 3) := by decide +kernel
theorem dd_SY_fill_7 : decode cd_SY_fill 7 = .ok (.if_icmp .ge 96, 3) := by decide +kernel
theorem dd_SY_fill_10 : decode cd_SY_fill 10 = .ok (.aload_n 0, 1) := by decide +kernel
theorem dd_SY_fill_11 : decode cd_SY_fill 11 = .ok (.iload_n 3, 1) := by decide +kernel
theorem dd_SY_fill_12 : decode cd_SY_fill 12 = .ok (.iconst 0, 1) := by decide +kernel
theorem dd_SY_fill_13 : decode cd_SY_fill 13 = .ok (.bipush 30, 2) := by decide +kernel
theorem dd_SY_fill_15 : decode cd_SY_fill 15 = .ok (.iload_n 3, 1) := by decide +kernel
theorem dd_SY_fill_16 : decode cd_SY_fill 16 = .ok (.iconst 3, 1) := by decide +kernel
theorem dd_SY_fill_17 : decode cd_SY_fill 17 = .ok (.idiv, 1) := by decide +kernel
theorem dd_SY_fill_18 : decode cd_SY_fill 18 = .ok (.imul, 1) := by decide +kernel
theorem dd_SY_fill_19 : decode cd_SY_fill 19 = .ok (.aload_n 0, 1) := by decide +kernel
theorem dd_SY_fill_20 : decode cd_SY_fill 20 = .ok (.iload_n 3, 1) := by decide +kernel
theorem dd_SY_fill_21 : decode cd_SY_fill 21 = .ok (.invokestatic 32, 3) := by decide +kernel
theorem dd_SY_fill_24 : decode cd_SY_fill 24 = .ok (.iload_n 2, 1) := by decide +kernel
theorem dd_SY_fill_25 : decode cd_SY_fill 25 = .ok (.invokevirtual 36, 3) := by decide +kernel
theorem dd_SY_fill_28 : decode cd_SY_fill 28 = .ok (.iadd, 1) := by decide +kernel
theorem dd_SY_fill_29 : decode cd_SY_fill 29 = .ok (.invokevirtual 40, 3) := by decide +kernel
theorem dd_SY_fill_32 : decode cd_SY_fill 32 = .ok (.aload_n 0, 1) := by decide +kernel
theorem dd_SY_fill_33 : decode cd_SY_fill 33 = .ok (.iload_n 3, 1) := by decide +kernel
theorem dd_SY_fill_34 : decode cd_SY_fill 34 = .ok (.aload_n 0, 1) := by decide +kernel
theorem dd_SY_fill_35 : decode cd_SY_fill 35 = .ok (.getfield 19, 3) := by decide +kernel
theorem dd_SY_fill_38 : decode cd_SY_fill 38 = .ok (.iconst 1, 1) := by decide +kernel
theorem dd_SY_fill_39 : decode cd_SY_fill 39 = .ok (.iadd, 1) := by decide +kernel
theorem dd_SY_fill_40 : decode cd_SY_fill 40 = .ok (.bipush 30, 2) := by decide +kernel
theorem dd_SY_fill_42 : decode cd_SY_fill 42 = .ok (.iload_n 3, 1) := by decide +kernel
theorem dd_SY_fill_43 : decode cd_SY_fill 43 = .ok (.iconst 3, 1) := by decide +kernel
theorem dd_SY_fill_44 : decode cd_SY_fill 44 = .ok (.idiv, 1) := by decide +kernel
theorem dd_SY_fill_45 : decode cd_SY_fill 45 = .ok (.imul, 1) := by decide +kernel
theorem dd_SY_fill_46 : decode cd_SY_fill 46 = .ok (.aload_n 0, 1) := by decide +kernel
theorem dd_SY_fill_47 : decode cd_SY_fill 47 = .ok (.iload_n 3, 1) := by decide +kernel
theorem dd_SY_fill_48 : decode cd_SY_fill 48 = .ok (.invokestatic 44, 3) := by decide +kernel
theorem dd_SY_fill_51 : decode cd_SY_fill 51 = .ok (.iload_n 2, 1) := by decide +kernel
theorem dd_SY_fill_52 : decode cd_SY_fill 52 = .ok (.invokevirtual 36, 3) := by decide +kernel
theorem dd_SY_fill_55 : decode cd_SY_fill 55 = .ok (.iadd, 1) := by decide +kernel
theorem dd_SY_fill_56 : decode cd_SY_fill 56 = .ok (.invokevirtual 40, 3) := by decide +kernel
theorem dd_SY_fill_59 : decode cd_SY_fill 59 = .ok (.iconst 1, 1) := by decide +kernel
theorem dd_SY_fill_60 : decode cd_SY_fill 60 = .ok (.istore 4, 2) := by decide +kernel
theorem dd_SY_fill_62 : decode cd_SY_fill 62 = .ok (.iload 4, 2) := by decide +kernel
theorem dd_SY_fill_64 : decode cd_SY_fill 64 = .ok (.aload_n 0, 1) := by decide +kernel
theorem dd_SY_fill_65 : decode cd_SY_fill 65 = .ok (.getfield 19, 3) := by decide +kernel
theorem dd_SY_fill_68 : decode cd_SY_fill 68 = .ok (.if_icmp .gt 29, 3) := by decide +kernel
theorem dd_SY_fill_71 : decode cd_SY_fill 71 = .ok (.aload_n 0, 1) := by decide +kernel
theorem dd_SY_fill_72 : decode cd_SY_fill 72 = .ok (.iload_n 3, 1) := by decide +kernel
theorem dd_SY_fill_73 : decode cd_SY_fill 73 = .ok (.iload 4, 2) := by decide +kernel
theorem dd_SY_fill_75 : decode cd_SY_fill 75 = .ok (.aload_n 1, 1) := by decide +kernel
theorem dd_SY_fill_76 : decode cd_SY_fill 76 = .ok (.iload_n 3, 1) := by decide +kernel
theorem dd_SY_fill_77 : decode cd_SY_fill 77 = .ok (.aload_n 0, 1) := by decide +kernel
theorem dd_SY_fill_78 : decode cd_SY_fill 78 = .ok (.getfield 19, 3) := by decide +kernel
theorem dd_SY_fill_81 : decode cd_SY_fill 81 = .ok (.imul, 1) := by decide +kernel
theorem dd_SY_fill_82 : decode cd_SY_fill 82 = .ok (.iload 4, 2) := by decide +kernel
theorem dd_SY_fill_84 : decode cd_SY_fill 84 = .ok (.iadd, 1) := by decide +kernel
theorem dd_SY_fill_85 : decode cd_SY_fill 85 = .ok (.iconst 1, 1) := by decide +kernel
theorem dd_SY_fill_86 : decode cd_SY_fill 86 = .ok (.isub, 1) := by decide +kernel
theorem dd_SY_fill_87 : decode cd_SY_fill 87 = .ok (.iaload, 1) := by decide +kernel
theorem dd_SY_fill_88 : decode cd_SY_fill 88 = .ok (.invokevirtual 40, 3) := by decide +kernel
theorem dd_SY_fill_91 : decode cd_SY_fill 91 = .ok (.iinc 4 1, 3) := by decide +kernel
theorem dd_SY_fill_94 : decode cd_SY_fill 94 = .ok (.goto (-32), 3) := by decide +kernel
theorem dd_SY_fill_97 : decode cd_SY_fill 97 = .ok (.iinc 3 1, 3) := by decide +kernel
theorem dd_SY_fill_100 : decode cd_SY_fill 100 = .ok (.goto (-98), 3) := by decide +kernel
theorem dd_SY_fill_103 : decode cd_SY_fill 103 = .ok (.return_, 1) := by decide +kernel
theorem dd_SR_negative_0 : decode cd_SR_negative 0 = .ok (.sipush 929, 3) := by decide +kernel
theorem dd_SR_negative_3 : decode cd_SR_negative 3 = .ok (.iload_n 0, 1) := by decide +kernel
theorem dd_SR_negative_4 : decode cd_SR_negative 4 = .ok (.isub, 1) := by decide +kernel
theorem dd_SR_negative_5 : decode cd_SR_negative 5 = .ok (.sipush 929, 3) := by decide +kernel
theorem dd_SR_negative_8 : decode cd_SR_negative 8 = .ok (.irem, 1) := by decide +kernel
theorem dd_SR_negative_9 : decode cd_SR_negative 9 = .ok (.ireturn, 1) := by decide +kernel
theorem dd_SR_checksOf_0 : decode cd_SR_checksOf 0 = .ok (.iconst 2, 1) := by decide +kernel
theorem dd_SR_checksOf_1 : decode cd_SR_checksOf 1 = .ok (.iload_n 0, 1) := by decide +kernel
theorem dd_SR_checksOf_2 : decode cd_SR_checksOf 2 = .ok (.ishl, 1) := by decide +kernel
theorem dd_SR_checksOf_3 : decode cd_SR_checksOf 3 = .ok (.ireturn, 1) := by decide +kernel
theorem dd_SR_rowsFor_0 : decode cd_SR_rowsFor 0 = .ok (.iconst 3, 1) := by decide +kernel
theorem dd_SR_rowsFor_1 : decode cd_SR_rowsFor 1 = .ok (.istore_n 2, 1) := by decide +kernel
theorem dd_SR_rowsFor_2 : decode cd_SR_rowsFor 2 = .ok (.iload_n 2, 1) := by decide +kernel
theorem dd_SR_rowsFor_3 : decode cd_SR_rowsFor 3 = .ok (.bipush 90, 2) := by decide +kernel
theorem dd_SR_rowsFor_5 : decode cd_SR_rowsFor 5 = .ok (.if_icmp .gt 16, 3) := by decide +kernel
theorem dd_SR_rowsFor_8 : decode cd_SR_rowsFor 8 = .ok (.iload_n 2, 1) := by decide +kernel
theorem dd_SR_rowsFor_9 : decode cd_SR_rowsFor 9 = .ok (.iload_n 1, 1) := by decide +kernel
theorem dd_SR_rowsFor_10 : decode cd_SR_rowsFor 10 = .ok (.imul, 1) := by decide +kernel
theorem dd_SR_rowsFor_11 : decode cd_SR_rowsFor 11 = .ok (.iload_n 0, 1) := by decide +kernel
theorem dd_SR_rowsFor_12 : decode cd_SR_rowsFor 12 = .ok (.if_icmp .ge 9, 3) := by decide +kernel
theorem dd_SR_rowsFor_15 : decode cd_SR_rowsFor 15 = .ok (.iinc 2 1, 3) := by decide +kernel
theorem dd_SR_rowsFor_18 : decode cd_SR_rowsFor 18 = .ok (.goto (-16), 3) := by decide +kernel
theorem dd_SR_rowsFor_21 : decode cd_SR_rowsFor 21 = .ok (.iload_n 2, 1) := by decide +kernel
theorem dd_SR_rowsFor_22 : decode cd_SR_rowsFor 22 = .ok (.ireturn, 1) := by decide +kernel
theorem dd_CK_init_0 : decode cd_CK_init 0 = .ok (.aload_n 0, 1) := by decide +kernel
theorem dd_CK_init_1 : decode cd_CK_init 1 = .ok (.invokespecial 3, 3) := by decide +kernel
theorem dd_CK_init_4 : decode cd_CK_init 4 = .ok (.aload_n 0, 1) := by decide +kernel
theorem dd_CK_init_5 : decode cd_CK_init 5 = .ok (.sipush 513, 3) := by decide +kernel
theorem dd_CK_init_8 : decode cd_CK_init 8 = .ok (.newarray .int, 2) := by decide +kernel
theorem dd_CK_init_10 : decode cd_CK_init 10 = .ok (.putfield 9, 3) := by decide +kernel
theorem dd_CK_init_13 : decode cd_CK_init 13 = .ok (.return_, 1) := by decide +kernel
theorem dd_CK_multiplyFactors_0 : decode cd_CK_multiplyFactors 0 = .ok (.aload_n 0, 1) := by decide +kernel
theorem dd_CK_multiplyFactors_1 : decode cd_CK_multiplyFactors 1 = .ok (.getfield 9, 3) := by decide +kernel
theorem dd_CK_multiplyFactors_4 : decode cd_CK_multiplyFactors 4 = .ok (.iconst 0, 1) := by decide +kernel
theorem dd_CK_multiplyFactors_5 : decode cd_CK_multiplyFactors 5 = .ok (.iconst 1, 1) := by decide +kernel
theorem dd_CK_multiplyFactors_6 : decode cd_CK_multiplyFactors 6 = .ok (.iastore, 1) := by decide +kernel
theorem dd_CK_multiplyFactors_7 : decode cd_CK_multiplyFactors 7 = .ok (.iconst 1, 1) := by decide +kernel
theorem dd_CK_multiplyFactors_8 : decode cd_CK_multiplyFactors 8 = .ok (.istore_n 2, 1) := by decide +kernel
theorem dd_CK_multiplyFactors_9 : decode cd_CK_multiplyFactors 9 = .ok (.iconst 1, 1) := by decide +kernel
theorem dd_CK_multiplyFactors_10 : decode cd_CK_multiplyFactors 10 = .ok (.istore_n 3, 1) := by decide +kernel
theorem dd_CK_multiplyFactors_11 : decode cd_CK_multiplyFactors 11 = .ok (.iload_n 3, 1) := by decide +kernel
theorem dd_CK_multiplyFactors_12 : decode cd_CK_multiplyFactors 12 = .ok (.iload_n 1, 1) := by decide +kernel
theorem dd_CK_multiplyFactors_13 : decode cd_CK_multiplyFactors 13 = .ok (.if_icmp .gt 96, 3) := by decide +kernel
theorem dd_CK_multiplyFactors_16 : decode cd_CK_multiplyFactors 16 = .ok (.iload_n 2, 1) := by decide +kernel
theorem dd_CK_multiplyFactors_17 : decode cd_CK_multiplyFactors 17 = .ok (.iconst 3, 1) := by decide +kernel
theorem dd_CK_multiplyFactors_18 : decode cd_CK_multiplyFactors 18 = .ok (.imul, 1) := by decide +kernel
theorem dd_CK_multiplyFactors_19 : decode cd_CK_multiplyFactors 19 = .ok (.sipush 929, 3) := by decide +kernel
theorem dd_CK_multiplyFactors_22 : decode cd_CK_multiplyFactors 22 = .ok (.irem, 1) := by decide +kernel
theorem dd_CK_multiplyFactors_23 : decode cd_CK_multiplyFactors 23 = .ok (.istore_n 2, 1) := by decide +kernel
theorem dd_CK_multiplyFactors_24 : decode cd_CK_multiplyFactors 24 = .ok (.iload_n 2, 1) := by decide +kernel
theorem dd_CK_multiplyFactors_25 : decode cd_CK_multiplyFactors 25 = .ok (.invokestatic 23, 3) := by decide +kernel
theorem dd_CK_multiplyFactors_28 : decode cd_CK_multiplyFactors 28 = .ok (.istore 4, 2) := by decide +kernel
theorem dd_CK_multiplyFactors_30 : decode cd_CK_multiplyFactors 30 = .ok (.aload_n 0, 1) := by decide +kernel
theorem dd_CK_multiplyFactors_31 : decode cd_CK_multiplyFactors 31 = .ok (.getfield 9, 3) := by decide +kernel
theorem dd_CK_multiplyFactors_34 : decode cd_CK_multiplyFactors 34 = .ok (.iload_n 3, 1) := by decide +kernel
theorem dd_CK_multiplyFactors_35 : decode cd_CK_multiplyFactors 35 = .ok (.iconst 1, 1) := by decide +kernel
theorem dd_CK_multiplyFactors_36 : decode cd_CK_multiplyFactors 36 = .ok (.iastore, 1) := by decide +kernel
theorem dd_CK_multiplyFactors_37 : decode cd_CK_multiplyFactors 37 = .ok (.iload_n 3, 1) := by decide +kernel
theorem dd_CK_multiplyFactors_38 : decode cd_CK_multiplyFactors 38 = .ok (.iconst 1, 1) := by decide +kernel
theorem dd_CK_multiplyFactors_39 : decode cd_CK_multiplyFactors 39 = .ok (.isub, 1) := by decide +kernel
theorem dd_CK_multiplyFactors_40 : decode cd_CK_multiplyFactors 40 = .ok (.istore 5, 2) := by decide +kernel
theorem dd_CK_multiplyFactors_42 : decode cd_CK_multiplyFactors 42 = .ok (.iload 5, 2) := by decide +kernel
theorem dd_CK_multiplyFactors_44 : decode cd_CK_multiplyFactors 44 = .ok (.ifCond .le 40, 3) := by decide +kernel
theorem dd_CK_multiplyFactors_47 : decode cd_CK_multiplyFactors 47 = .ok (.aload_n 0, 1) := by decide +kernel
theorem dd_CK_multiplyFactors_48 : decode cd_CK_multiplyFactors 48 = .ok (.getfield 9, 3) := by decide +kernel
theorem dd_CK_multiplyFactors_51 : decode cd_CK_multiplyFactors 51 = .ok (.iload 5, 2) := by decide +kernel
theorem dd_CK_multiplyFactors_53 : decode cd_CK_multiplyFactors 53 = .ok (.aload_n 0, 1) := by decide +kernel
theorem dd_CK_multiplyFactors_54 : decode cd_CK_multiplyFactors 54 = .ok (.getfield 9, 3) := by decide +kernel
theorem dd_CK_multiplyFactors_57 : decode cd_CK_multiplyFactors 57 = .ok (.iload 5, 2) := by decide +kernel
theorem dd_CK_multiplyFactors_59 : decode cd_CK_multiplyFactors 59 = .ok (.iconst 1, 1) := by decide +kernel
theorem dd_CK_multiplyFactors_60 : decode cd_CK_multiplyFactors 60 = .ok (.isub, 1) := by decide +kernel
theorem dd_CK_multiplyFactors_61 : decode cd_CK_multiplyFactors 61 = .ok (.iaload, 1) := by decide +kernel
theorem dd_CK_multiplyFactors_62 : decode cd_CK_multiplyFactors 62 = .ok (.iload 4, 2) := by decide +kernel
theorem dd_CK_multiplyFactors_64 : decode cd_CK_multiplyFactors 64 = .ok (.aload_n 0, 1) := by decide +kernel
theorem dd_CK_multiplyFactors_65 : decode cd_CK_multiplyFactors 65 = .ok (.getfield 9, 3) := by decide +kernel
theorem dd_CK_multiplyFactors_68 : decode cd_CK_multiplyFactors 68 = .ok (.iload 5, 2) := by decide +kernel
theorem dd_CK_multiplyFactors_70 : decode cd_CK_multiplyFactors 70 = .ok (.iaload, 1) := by decide +kernel
theorem dd_CK_multiplyFactors_71 : decode cd_CK_multiplyFactors 71 = .ok (.imul, 1) := by decide +kernel
theorem dd_CK_multiplyFactors_72 : decode cd_CK_multiplyFactors 72 = .ok (.iadd, 1) := by decide +kernel
theorem dd_CK_multiplyFactors_73 : decode cd_CK_multiplyFactors 73 = .ok (.sipush 929, 3) := by decide +kernel
theorem dd_CK_multiplyFactors_76 : decode cd_CK_multiplyFactors 76 = .ok (.irem, 1) := by decide +kernel
theorem dd_CK_multiplyFactors_77 : decode cd_CK_multiplyFactors 77 = .ok (.iastore, 1) := by decide +kernel
theorem dd_CK_multiplyFactors_78 : decode cd_CK_multiplyFactors 78 = .ok (.iinc 5 (-1), 3) := by decide +kernel
theorem dd_CK_multiplyFactors_81 : decode cd_CK_multiplyFactors 81 = .ok (.goto (-39), 3) := by decide +kernel
theorem dd_CK_multiplyFactors_84 : decode cd_CK_multiplyFactors 84 = .ok (.aload_n 0, 1) := by decide +kernel
theorem dd_CK_multiplyFactors_85 : decode cd_CK_multiplyFactors 85 = .ok (.getfield 9, 3) := by decide +kernel
theorem dd_CK_multiplyFactors_88 : decode cd_CK_multiplyFactors 88 = .ok (.iconst 0, 1) := by decide +kernel
theorem dd_CK_multiplyFactors_89 : decode cd_CK_multiplyFactors 89 = .ok (.iload 4, 2) := by decide +kernel
theorem dd_CK_multiplyFactors_91 : decode cd_CK_multiplyFactors 91 = .ok (.aload_n 0, 1) := by decide +kernel
theorem dd_CK_multiplyFactors_92 : decode cd_CK_multiplyFactors 92 = .ok (.getfield 9, 3) := by decide +kernel
theorem dd_CK_multiplyFactors_95 : decode cd_CK_multiplyFactors 95 = .ok (.iconst 0, 1) := by decide +kernel
theorem dd_CK_multiplyFactors_96 : decode cd_CK_multiplyFactors 96 = .ok (.iaload, 1) := by decide +kernel
theorem dd_CK_multiplyFactors_97 : decode cd_CK_multiplyFactors 97 = .ok (.imul, 1) := by decide +kernel
theorem dd_CK_multiplyFactors_98 : decode cd_CK_multiplyFactors 98 = .ok (.sipush 929, 3) := by decide +kernel
theorem dd_CK_multiplyFactors_101 : decode cd_CK_multiplyFactors 101 = .ok (.irem, 1) := by decide +kernel
theorem dd_CK_multiplyFactors_102 : decode cd_CK_multiplyFactors 102 = .ok (.iastore, 1) := by decide +kernel
theorem dd_CK_multiplyFactors_103 : decode cd_CK_multiplyFactors 103 = .ok (.iinc 3 1, 3) := by decide +kernel
theorem dd_CK_multiplyFactors_106 : decode cd_CK_multiplyFactors 106 = .ok (.goto (-95), 3) := by decide +kernel
theorem dd_CK_multiplyFactors_109 : decode cd_CK_multiplyFactors 109 = .ok (.return_, 1) := by decide +kernel
theorem dd_CK_divide_0 : decode cd_CK_divide 0 = .ok (.iload_n 2, 1) := by decide +kernel
theorem dd_CK_divide_1 : decode cd_CK_divide 1 = .ok (.iload_n 3, 1) := by decide +kernel
theorem dd_CK_divide_2 : decode cd_CK_divide 2 = .ok (.isub, 1) := by decide +kernel
theorem dd_CK_divide_3 : decode cd_CK_divide 3 = .ok (.istore 4, 2) := by decide +kernel
theorem dd_CK_divide_5 : decode cd_CK_divide 5 = .ok (.iload 4, 2) := by decide +kernel
theorem dd_CK_divide_7 : decode cd_CK_divide 7 = .ok (.iload_n 2, 1) := by decide +kernel
theorem dd_CK_divide_8 : decode cd_CK_divide 8 = .ok (.if_icmp .ge 14, 3) := by decide +kernel
theorem dd_CK_divide_11 : decode cd_CK_divide 11 = .ok (.aload_n 1, 1) := by decide +kernel
theorem dd_CK_divide_12 : decode cd_CK_divide 12 = .ok (.iload 4, 2) := by decide +kernel
theorem dd_CK_divide_14 : decode cd_CK_divide 14 = .ok (.iconst 0, 1) := by decide +kernel
theorem dd_CK_divide_15 : decode cd_CK_divide 15 = .ok (.iastore, 1) := by decide +kernel
theorem dd_CK_divide_16 : decode cd_CK_divide 16 = .ok (.iinc 4 1, 3) := by decide +kernel
theorem dd_CK_divide_19 : decode cd_CK_divide 19 = .ok (.goto (-14), 3) := by decide +kernel
theorem dd_CK_divide_22 : decode cd_CK_divide 22 = .ok (.iconst 0, 1) := by decide +kernel
theorem dd_CK_divide_23 : decode cd_CK_divide 23 = .ok (.istore 4, 2) := by decide +kernel
theorem dd_CK_divide_25 : decode cd_CK_divide 25 = .ok (.iload 4, 2) := by decide +kernel
theorem dd_CK_divide_27 : decode cd_CK_divide 27 = .ok (.iload_n 2, 1) := by decide +kernel
theorem dd_CK_divide_28 : decode cd_CK_divide 28 = .ok (.iload_n 3, 1) := by decide +kernel
theorem dd_CK_divide_29 : decode cd_CK_divide 29 = .ok (.isub, 1) := by decide +kernel
theorem dd_CK_divide_30 : decode cd_CK_divide 30 = .ok (.if_icmp .ge 91, 3) := by decide +kernel
theorem dd_CK_divide_33 : decode cd_CK_divide 33 = .ok (.aload_n 1, 1) := by decide +kernel
theorem dd_CK_divide_34 : decode cd_CK_divide 34 = .ok (.iload 4, 2) := by decide +kernel
theorem dd_CK_divide_36 : decode cd_CK_divide 36 = .ok (.iaload, 1) := by decide +kernel
theorem dd_CK_divide_37 : decode cd_CK_divide 37 = .ok (.aload_n 1, 1) := by decide +kernel
theorem dd_CK_divide_38 : decode cd_CK_divide 38 = .ok (.iload_n 2, 1) := by decide +kernel
theorem dd_CK_divide_39 : decode cd_CK_divide 39 = .ok (.iload_n 3, 1) := by decide +kernel
theorem dd_CK_divide_40 : decode cd_CK_divide 40 = .ok (.isub, 1) := by decide +kernel
theorem dd_CK_divide_41 : decode cd_CK_divide 41 = .ok (.iaload, 1) := by decide +kernel
theorem dd_CK_divide_42 : decode cd_CK_divide 42 = .ok (.iadd, 1) := by decide +kernel
theorem dd_CK_divide_43 : decode cd_CK_divide 43 = .ok (.sipush 929, 3) := by decide +kernel
theorem dd_CK_divide_46 : decode cd_CK_divide 46 = .ok (.irem, 1) := by decide +kernel
theorem dd_CK_divide_47 : decode cd_CK_divide 47 = .ok (.invokestatic 23, 3) := by decide +kernel
theorem dd_CK_divide_50 : decode cd_CK_divide 50 = .ok (.istore 5, 2) := by decide +kernel
theorem dd_CK_divide_52 : decode cd_CK_divide 52 = .ok (.iload_n 3, 1) := by decide +kernel
theorem dd_CK_divide_53 : decode cd_CK_divide 53 = .ok (.iconst 1, 1) := by decide +kernel
theorem dd_CK_divide_54 : decode cd_CK_divide 54 = .ok (.isub, 1) := by decide +kernel
theorem dd_CK_divide_55 : decode cd_CK_divide 55 = .ok (.istore 6, 2) := by decide +kernel
theorem dd_CK_divide_57 : decode cd_CK_divide 57 = .ok (.iload 6, 2) := by decide +kernel
theorem dd_CK_divide_59 : decode cd_CK_divide 59 = .ok (.ifCond .le 38, 3) := by decide +kernel
theorem dd_CK_divide_62 : decode cd_CK_divide 62 = .ok (.aload_n 1, 1) := by decide +kernel
theorem dd_CK_divide_63 : decode cd_CK_divide 63 = .ok (.iload_n 2, 1) := by decide +kernel
theorem dd_CK_divide_64 : decode cd_CK_divide 64 = .ok (.iconst 1, 1) := by decide +kernel
theorem dd_CK_divide_65 : decode cd_CK_divide 65 = .ok (.isub, 1) := by decide +kernel
theorem dd_CK_divide_66 : decode cd_CK_divide 66 = .ok (.iload 6, 2) := by decide +kernel
theorem dd_CK_divide_68 : decode cd_CK_divide 68 = .ok (.isub, 1) := by decide +kernel
theorem dd_CK_divide_69 : decode cd_CK_divide 69 = .ok (.aload_n 1, 1) := by decide +kernel
theorem dd_CK_divide_70 : decode cd_CK_divide 70 = .ok (.iload_n 2, 1) := by decide +kernel
theorem dd_CK_divide_71 : decode cd_CK_divide 71 = .ok (.iload 6, 2) := by decide +kernel
theorem dd_CK_divide_73 : decode cd_CK_divide 73 = .ok (.isub, 1) := by decide +kernel
theorem dd_CK_divide_74 : decode cd_CK_divide 74 = .ok (.iaload, 1) := by decide +kernel
theorem dd_CK_divide_75 : decode cd_CK_divide 75 = .ok (.iload 5, 2) := by decide +kernel
theorem dd_CK_divide_77 : decode cd_CK_divide 77 = .ok (.aload_n 0, 1) := by decide +kernel
theorem dd_CK_divide_78 : decode cd_CK_divide 78 = .ok (.getfield 9, 3) := by decide +kernel
theorem dd_CK_divide_81 : decode cd_CK_divide 81 = .ok (.iload 6, 2) := by decide +kernel
theorem dd_CK_divide_83 : decode cd_CK_divide 83 = .ok (.iaload, 1) := by decide +kernel
theorem dd_CK_divide_84 : decode cd_CK_divide 84 = .ok (.imul, 1) := by decide +kernel
theorem dd_CK_divide_85 : decode cd_CK_divide 85 = .ok (.iadd, 1) := by decide +kernel
theorem dd_CK_divide_86 : decode cd_CK_divide 86 = .ok (.sipush 929, 3) := by decide +kernel
theorem dd_CK_divide_89 : decode cd_CK_divide 89 = .ok (.irem, 1) := by decide +kernel
theorem dd_CK_divide_90 : decode cd_CK_divide 90 = .ok (.iastore, 1) := by decide +kernel
theorem dd_CK_divide_91 : decode cd_CK_divide 91 = .ok (.iinc 6 (-1), 3) := by decide +kernel
theorem dd_CK_divide_94 : decode cd_CK_divide 94 = .ok (.goto (-37), 3) := by decide +kernel
theorem dd_CK_divide_97 : decode cd_CK_divide 97 = .ok (.aload_n 1, 1) := by decide +kernel
theorem dd_CK_divide_98 : decode cd_CK_divide 98 = .ok (.iload_n 2, 1) := by decide +kernel
theorem dd_CK_divide_99 : decode cd_CK_divide 99 = .ok (.iconst 1, 1) := by decide +kernel
theorem dd_CK_divide_100 : decode cd_CK_divide 100 = .ok (.isub, 1) := by decide +kernel
theorem dd_CK_divide_101 : decode cd_CK_divide 101 = .ok (.iload 5, 2) := by decide +kernel
theorem dd_CK_divide_103 : decode cd_CK_divide 103 = .ok (.aload_n 0, 1) := by decide +kernel
theorem dd_CK_divide_104 : decode cd_CK_divide 104 = .ok (.getfield 9, 3) := by decide +kernel
theorem dd_CK_divide_107 : decode cd_CK_divide 107 = .ok (.iconst 0, 1) := by decide +kernel
theorem dd_CK_divide_108 : decode cd_CK_divide 108 = .ok (.iaload, 1) := by decide +kernel
theorem dd_CK_divide_109 : decode cd_CK_divide 109 = .ok (.imul, 1) := by decide +kernel
theorem dd_CK_divide_110 : decode cd_CK_divide 110 = .ok (.sipush 929, 3) := by decide +kernel
theorem dd_CK_divide_113 : decode cd_CK_divide 113 = .ok (.irem, 1) := by decide +kernel
theorem dd_CK_divide_114 : decode cd_CK_divide 114 = .ok (.iastore, 1) := by decide +kernel
theorem dd_CK_divide_115 : decode cd_CK_divide 115 = .ok (.iinc 4 1, 3) := by decide +kernel
theorem dd_CK_divide_118 : decode cd_CK_divide 118 = .ok (.goto (-93), 3) := by decide +kernel
theorem dd_CK_divide_121 : decode cd_CK_divide 121 = .ok (.return_, 1) := by decide +kernel
theorem dd_CK_write_0 : decode cd_CK_write 0 = .ok (.aload_n 0, 1) := by decide +kernel
theorem dd_CK_write_1 : decode cd_CK_write 1 = .ok (.iload_n 3, 1) := by decide +kernel
theorem dd_CK_write_2 : decode cd_CK_write 2 = .ok (.invokevirtual 15, 3) := by decide +kernel
theorem dd_CK_write_5 : decode cd_CK_write 5 = .ok (.aload_n 0, 1) := by decide +kernel
theorem dd_CK_write_6 : decode cd_CK_write 6 = .ok (.aload_n 1, 1) := by decide +kernel
theorem dd_CK_write_7 : decode cd_CK_write 7 = .ok (.iload_n 2, 1) := by decide +kernel
theorem dd_CK_write_8 : decode cd_CK_write 8 = .ok (.iload_n 3, 1) := by decide +kernel
theorem dd_CK_write_9 : decode cd_CK_write 9 = .ok (.invokevirtual 19, 3) := by decide +kernel
theorem dd_CK_write_12 : decode cd_CK_write 12 = .ok (.iload_n 2, 1) := by decide +kernel
theorem dd_CK_write_13 : decode cd_CK_write 13 = .ok (.iload_n 3, 1) := by decide +kernel
theorem dd_CK_write_14 : decode cd_CK_write 14 = .ok (.isub, 1) := by decide +kernel
theorem dd_CK_write_15 : decode cd_CK_write 15 = .ok (.istore 4, 2) := by decide +kernel
theorem dd_CK_write_17 : decode cd_CK_write 17 = .ok (.iload 4, 2) := by decide +kernel
theorem dd_CK_write_19 : decode cd_CK_write 19 = .ok (.iload_n 2, 1) := by decide +kernel
theorem dd_CK_write_20 : decode cd_CK_write 20 = .ok (.if_icmp .ge 20, 3) := by decide +kernel
theorem dd_CK_write_23 : decode cd_CK_write 23 = .ok (.aload_n 1, 1) := by decide +kernel
theorem dd_CK_write_24 : decode cd_CK_write 24 = .ok (.iload 4, 2) := by decide +kernel
theorem dd_CK_write_26 : decode cd_CK_write 26 = .ok (.aload_n 1, 1) := by decide +kernel
theorem dd_CK_write_27 : decode cd_CK_write 27 = .ok (.iload 4, 2) := by decide +kernel
theorem dd_CK_write_29 : decode cd_CK_write 29 = .ok (.iaload, 1) := by decide +kernel
theorem dd_CK_write_30 : decode cd_CK_write 30 = .ok (.invokestatic 23, 3) := by decide +kernel
theorem dd_CK_write_33 : decode cd_CK_write 33 = .ok (.iastore, 1) := by decide +kernel
theorem dd_CK_write_34 : decode cd_CK_write 34 = .ok (.iinc 4 1, 3) := by decide +kernel
theorem dd_CK_write_37 : decode cd_CK_write 37 = .ok (.goto (-20), 3) := by decide +kernel
theorem dd_CK_write_40 : decode cd_CK_write 40 = .ok (.return_, 1) := by decide +kernel
theorem dd_MD_init_0 : decode cd_MD_init 0 = .ok (.aload_n 0, 1) := by decide +kernel
theorem dd_MD_init_1 : decode cd_MD_init 1 = .ok (.invokespecial 3, 3) := by decide +kernel
theorem dd_MD_init_4 : decode cd_MD_init 4 = .ok (.aload_n 0, 1) := by decide +kernel
theorem dd_MD_init_5 : decode cd_MD_init 5 = .ok (.aload_n 1, 1) := by decide +kernel
theorem dd_MD_init_6 : decode cd_MD_init 6 = .ok (.putfield 9, 3) := by decide +kernel
theorem dd_MD_init_9 : decode cd_MD_init 9 = .ok (.aload_n 0, 1) := by decide +kernel
theorem dd_MD_init_10 : decode cd_MD_init 10 = .ok (.sipush 513, 3) := by decide +kernel
theorem dd_MD_init_13 : decode cd_MD_init 13 = .ok (.newarray .int, 2) := by decide +kernel
theorem dd_MD_init_15 : decode cd_MD_init 15 = .ok (.putfield 15, 3) := by decide +kernel
theorem dd_MD_init_18 : decode cd_MD_init 18 = .ok (.aload_n 0, 1) := by decide +kernel
theorem dd_MD_init_19 : decode cd_MD_init 19 = .ok (.sipush 513, 3) := by decide +kernel
theorem dd_MD_init_22 : decode cd_MD_init 22 = .ok (.newarray .int, 2) := by decide +kernel
theorem dd_MD_init_24 : decode cd_MD_init 24 = .ok (.putfield 18, 3) := by decide +kernel
theorem dd_MD_init_27 : decode cd_MD_init 27 = .ok (.aload_n 0, 1) := by decide +kernel
theorem dd_MD_init_28 : decode cd_MD_init 28 = .ok (.sipush 513, 3) := by decide +kernel
theorem dd_MD_init_31 : decode cd_MD_init 31 = .ok (.newarray .int, 2) := by decide +kernel
theorem dd_MD_init_33 : decode cd_MD_init 33 = .ok (.putfield 21, 3) := by decide +kernel
theorem dd_MD_init_36 : decode cd_MD_init 36 = .ok (.aload_n 0, 1) := by decide +kernel
theorem dd_MD_init_37 : decode cd_MD_init 37 = .ok (.sipush 513, 3) := by decide +kernel
theorem dd_MD_init_40 : decode cd_MD_init 40 = .ok (.newarray .int, 2) := by decide +kernel
theorem dd_MD_init_42 : decode cd_MD_init 42 = .ok (.putfield 24, 3) := by decide +kernel
theorem dd_MD_init_45 : decode cd_MD_init 45 = .ok (.aload_n 0, 1) := by decide +kernel
theorem dd_MD_init_46 : decode cd_MD_init 46 = .ok (.sipush 513, 3) := by decide +kernel
theorem dd_MD_init_49 : decode cd_MD_init 49 = .ok (.newarray .int, 2) := by decide +kernel
theorem dd_MD_init_51 : decode cd_MD_init 51 = .ok (.putfield 27, 3) := by decide +kernel
theorem dd_MD_init_54 : decode cd_MD_init 54 = .ok (.aload_n 0, 1) := by decide +kernel
theorem dd_MD_init_55 : decode cd_MD_init 55 = .ok (.iconst 0, 1) := by decide +kernel
theorem dd_MD_init_56 : decode cd_MD_init 56 = .ok (.putfield 30, 3) := by decide +kernel
theorem dd_MD_init_59 : decode cd_MD_init 59 = .ok (.aload_n 0, 1) := by decide +kernel
theorem dd_MD_init_60 : decode cd_MD_init 60 = .ok (.iconst 0, 1) := by decide +kernel
theorem dd_MD_init_61 : decode cd_MD_init 61 = .ok (.putfield 34, 3) := by decide +kernel
theorem dd_MD_init_64 : decode cd_MD_init 64 = .ok (.aload_n 0, 1) := by decide +kernel
theorem dd_MD_init_65 : decode cd_MD_init 65 = .ok (.iconst 0, 1) := by decide +kernel
theorem dd_MD_init_66 : decode cd_MD_init 66 = .ok (.putfield 37, 3) := by decide +kernel
theorem dd_MD_init_69 : decode cd_MD_init 69 = .ok (.return_, 1) := by decide +kernel
theorem dd_RD_init_0 : decode cd_RD_init 0 = .ok (.aload_n 0, 1) := by decide +kernel
theorem dd_RD_init_1 : decode cd_RD_init 1 = .ok (.invokespecial 3, 3) := by decide +kernel
theorem dd_RD_init_4 : decode cd_RD_init 4 = .ok (.aload_n 0, 1) := by decide +kernel
theorem dd_RD_init_5 : decode cd_RD_init 5 = .ok (.aload_n 1, 1) := by decide +kernel
theorem dd_RD_init_6 : decode cd_RD_init 6 = .ok (.putfield 9, 3) := by decide +kernel
theorem dd_RD_init_9 : decode cd_RD_init 9 = .ok (.aload_n 0, 1) := by decide +kernel
theorem dd_RD_init_10 : decode cd_RD_init 10 = .ok (.aload_n 2, 1) := by decide +kernel
theorem dd_RD_init_11 : decode cd_RD_init 11 = .ok (.putfield 15, 3) := by decide +kernel
theorem dd_RD_init_14 : decode cd_RD_init 14 = .ok (.aload_n 0, 1) := by decide +kernel
theorem dd_RD_init_15 : decode cd_RD_init 15 = .ok (.new 19, 3) := by decide +kernel
theorem dd_RD_init_18 : decode cd_RD_init 18 = .ok (.dup, 1) := by decide +kernel
theorem dd_RD_init_19 : decode cd_RD_init 19 = .ok (.bipush 10, 2) := by decide +kernel
theorem dd_RD_init_21 : decode cd_RD_init 21 = .ok (.bipush 45, 2) := by decide +kernel
theorem dd_RD_init_23 : decode cd_RD_init 23 = .ok (.invokespecial 21, 3) := by decide +kernel
theorem dd_RD_init_26 : decode cd_RD_init 26 = .ok (.putfield 24, 3) := by decide +kernel
theorem dd_RD_init_29 : decode cd_RD_init 29 = .ok (.aload_n 0, 1) := by decide +kernel
theorem dd_RD_init_30 : decode cd_RD_init 30 = .ok (.iconst 0, 1) := by decide +kernel
theorem dd_RD_init_31 : decode cd_RD_init 31 = .ok (.putfield 28, 3) := by decide +kernel
theorem dd_RD_init_34 : decode cd_RD_init 34 = .ok (.aload_n 0, 1) := by decide +kernel
theorem dd_RD_init_35 : decode cd_RD_init 35 = .ok (.sipush 900, 3) := by decide +kernel
theorem dd_RD_init_38 : decode cd_RD_init 38 = .ok (.putfield 32, 3) := by decide +kernel
theorem dd_RD_init_41 : decode cd_RD_init 41 = .ok (.aload_n 0, 1) := by decide +kernel
theorem dd_RD_init_42 : decode cd_RD_init 42 = .ok (.getstatic 35, 3) := by decide +kernel
theorem dd_RD_init_45 : decode cd_RD_init 45 = .ok (.putfield 41, 3) := by decide +kernel
theorem dd_RD_init_48 : decode cd_RD_init 48 = .ok (.aload_n 0, 1) := by decide +kernel
theorem dd_RD_init_49 : decode cd_RD_init 49 = .ok (.aconst_null, 1) := by decide +kernel
theorem dd_RD_init_50 : decode cd_RD_init 50 = .ok (.putfield 44, 3) := by decide +kernel
theorem dd_RD_init_53 : decode cd_RD_init 53 = .ok (.aload_n 0, 1) := by decide +kernel
theorem dd_RD_init_54 : decode cd_RD_init 54 = .ok (.iconst 0, 1) := by decide +kernel
theorem dd_RD_init_55 : decode cd_RD_init 55 = .ok (.putfield 47, 3) := by decide +kernel
theorem dd_RD_init_58 : decode cd_RD_init 58 = .ok (.return_, 1) := by decide +kernel
theorem dd_SV_init_0 : decode cd_SV_init 0 = .ok (.aload_n 0, 1) := by decide +kernel
theorem dd_SV_init_1 : decode cd_SV_init 1 = .ok (.invokespecial 3, 3) := by decide +kernel
theorem dd_SV_init_4 : decode cd_SV_init 4 = .ok (.aload_n 0, 1) := by decide +kernel
theorem dd_SV_init_5 : decode cd_SV_init 5 = .ok (.aload_n 1, 1) := by decide +kernel
theorem dd_SV_init_6 : decode cd_SV_init 6 = .ok (.putfield 9, 3) := by decide +kernel
theorem dd_SV_init_9 : decode cd_SV_init 9 = .ok (.aload_n 0, 1) := by decide +kernel
theorem dd_SV_init_10 : decode cd_SV_init 10 = .ok (.bipush 90, 2) := by decide +kernel
theorem dd_SV_init_12 : decode cd_SV_init 12 = .ok (.newarray .int, 2) := by decide +kernel
theorem dd_SV_init_14 : decode cd_SV_init 14 = .ok (.putfield 15, 3) := by decide +kernel
theorem dd_SV_init_17 : decode cd_SV_init 17 = .ok (.aload_n 0, 1) := by decide +kernel
theorem dd_SV_init_18 : decode cd_SV_init 18 = .ok (.sipush 928, 3) := by decide +kernel
theorem dd_SV_init_21 : decode cd_SV_init 21 = .ok (.newarray .int, 2) := by decide +kernel
theorem dd_SV_init_23 : decode cd_SV_init 23 = .ok (.putfield 18, 3) := by decide +kernel
theorem dd_SV_init_26 : decode cd_SV_init 26 = .ok (.aload_n 0, 1) := by decide +kernel
theorem dd_SV_init_27 : decode cd_SV_init 27 = .ok (.new 21, 3) := by decide +kernel
theorem dd_SV_init_30 : decode cd_SV_init 30 = .ok (.dup, 1) := by decide +kernel
theorem dd_SV_init_31 : decode cd_SV_init 31 = .ok (.aload_n 0, 1) := by decide +kernel
theorem dd_SV_init_32 : decode cd_SV_init 32 = .ok (.getfield 18, 3) := by decide +kernel
theorem dd_SV_init_35 : decode cd_SV_init 35 = .ok (.invokespecial 23, 3) := by decide +kernel
theorem dd_SV_init_38 : decode cd_SV_init 38 = .ok (.putfield 26, 3) := by decide +kernel
theorem dd_SV_init_41 : decode cd_SV_init 41 = .ok (.aload_n 0, 1) := by decide +kernel
theorem dd_SV_init_42 : decode cd_SV_init 42 = .ok (.new 30, 3) := by decide +kernel
theorem dd_SV_init_45 : decode cd_SV_init 45 = .ok (.dup, 1) := by decide +kernel
theorem dd_SV_init_46 : decode cd_SV_init 46 = .ok (.invokespecial 32, 3) := by decide +kernel
theorem dd_SV_init_49 : decode cd_SV_init 49 = .ok (.putfield 33, 3) := by decide +kernel
theorem dd_SV_init_52 : decode cd_SV_init 52 = .ok (.aload_n 0, 1) := by decide +kernel
theorem dd_SV_init_53 : decode cd_SV_init 53 = .ok (.new 37, 3) := by decide +kernel
theorem dd_SV_init_56 : decode cd_SV_init 56 = .ok (.dup, 1) := by decide +kernel
theorem dd_SV_init_57 : decode cd_SV_init 57 = .ok (.aload_n 0, 1) := by decide +kernel
theorem dd_SV_init_58 : decode cd_SV_init 58 = .ok (.getfield 18, 3) := by decide +kernel
theorem dd_SV_init_61 : decode cd_SV_init 61 = .ok (.aload_n 0, 1) := by decide +kernel
theorem dd_SV_init_62 : decode cd_SV_init 62 = .ok (.getfield 33, 3) := by decide +kernel
theorem dd_SV_init_65 : decode cd_SV_init 65 = .ok (.invokespecial 39, 3) := by decide +kernel
theorem dd_SV_init_68 : decode cd_SV_init 68 = .ok (.putfield 42, 3) := by decide +kernel
theorem dd_SV_init_71 : decode cd_SV_init 71 = .ok (.aload_n 0, 1) := by decide +kernel
theorem dd_SV_init_72 : decode cd_SV_init 72 = .ok (.iconst 0, 1) := by decide +kernel
theorem dd_SV_init_73 : decode cd_SV_init 73 = .ok (.putfield 46, 3) := by decide +kernel
theorem dd_SV_init_76 : decode cd_SV_init 76 = .ok (.aload_n 0, 1) := by decide +kernel
theorem dd_SV_init_77 : decode cd_SV_init 77 = .ok (.iconst 0, 1) := by decide +kernel
theorem dd_SV_init_78 : decode cd_SV_init 78 = .ok (.putfield 50, 3) := by decide +kernel
theorem dd_SV_init_81 : decode cd_SV_init 81 = .ok (.aload_n 0, 1) := by decide +kernel
theorem dd_SV_init_82 : decode cd_SV_init 82 = .ok (.iconst 0, 1) := by decide +kernel
theorem dd_SV_init_83 : decode cd_SV_init 83 = .ok (.putfield 53, 3) := by decide +kernel
theorem dd_SV_init_86 : decode cd_SV_init 86 = .ok (.return_, 1) := by decide +kernel
theorem dd_SR_init_0 : decode cd_SR_init 0 = .ok (.aload_n 0, 1) := by decide +kernel
theorem dd_SR_init_1 : decode cd_SR_init 1 = .ok (.invokespecial 3, 3) := by decide +kernel
theorem dd_SR_init_4 : decode cd_SR_init 4 = .ok (.aload_n 0, 1) := by decide +kernel
theorem dd_SR_init_5 : decode cd_SR_init 5 = .ok (.new 9, 3) := by decide +kernel
theorem dd_SR_init_8 : decode cd_SR_init 8 = .ok (.dup, 1) := by decide +kernel
theorem dd_SR_init_9 : decode cd_SR_init 9 = .ok (.invokespecial 11, 3) := by decide +kernel
theorem dd_SR_init_12 : decode cd_SR_init 12 = .ok (.putfield 12, 3) := by decide +kernel
theorem dd_SR_init_15 : decode cd_SR_init 15 = .ok (.aload_n 0, 1) := by decide +kernel
theorem dd_SR_init_16 : decode cd_SR_init 16 = .ok (.new 16, 3) := by decide +kernel
theorem dd_SR_init_19 : decode cd_SR_init 19 = .ok (.dup, 1) := by decide +kernel
theorem dd_SR_init_20 : decode cd_SR_init 20 = .ok (.aload_n 0, 1) := by decide +kernel
theorem dd_SR_init_21 : decode cd_SR_init 21 = .ok (.getfield 12, 3) := by decide +kernel
theorem dd_SR_init_24 : decode cd_SR_init 24 = .ok (.invokespecial 18, 3) := by decide +kernel
theorem dd_SR_init_27 : decode cd_SR_init 27 = .ok (.putfield 21, 3) := by decide +kernel
theorem dd_SR_init_30 : decode cd_SR_init 30 = .ok (.aload_n 0, 1) := by decide +kernel
theorem dd_SR_init_31 : decode cd_SR_init 31 = .ok (.new 25, 3) := by decide +kernel
theorem dd_SR_init_34 : decode cd_SR_init 34 = .ok (.dup, 1) := by decide +kernel
theorem dd_SR_init_35 : decode cd_SR_init 35 = .ok (.invokespecial 27, 3) := by decide +kernel
theorem dd_SR_init_38 : decode cd_SR_init 38 = .ok (.putfield 28, 3) := by decide +kernel
theorem dd_SR_init_41 : decode cd_SR_init 41 = .ok (.aload_n 0, 1) := by decide +kernel
theorem dd_SR_init_42 : decode cd_SR_init 42 = .ok (.new 32, 3) := by decide +kernel
theorem dd_SR_init_45 : decode cd_SR_init 45 = .ok (.dup, 1) := by decide +kernel
theorem dd_SR_init_46 : decode cd_SR_init 46 = .ok (.invokespecial 34, 3) := by decide +kernel
theorem dd_SR_init_49 : decode cd_SR_init 49 = .ok (.putfield 35, 3) := by decide +kernel
theorem dd_SR_init_52 : decode cd_SR_init 52 = .ok (.aload_n 0, 1) := by decide +kernel
theorem dd_SR_init_53 : decode cd_SR_init 53 = .ok (.sipush 928, 3) := by decide +kernel
theorem dd_SR_init_56 : decode cd_SR_init 56 = .ok (.newarray .int, 2) := by decide +kernel
theorem dd_SR_init_58 : decode cd_SR_init 58 = .ok (.putfield 39, 3) := by decide +kernel
theorem dd_SR_init_61 : decode cd_SR_init 61 = .ok (.aload_n 0, 1) := by decide +kernel
theorem dd_SR_init_62 : decode cd_SR_init 62 = .ok (.new 43, 3) := by decide +kernel
theorem dd_SR_init_65 : decode cd_SR_init 65 = .ok (.dup, 1) := by decide +kernel
theorem dd_SR_init_66 : decode cd_SR_init 66 = .ok (.aload_n 0, 1) := by decide +kernel
theorem dd_SR_init_67 : decode cd_SR_init 67 = .ok (.getfield 39, 3) := by decide +kernel
theorem dd_SR_init_70 : decode cd_SR_init 70 = .ok (.invokespecial 45, 3) := by decide +kernel
theorem dd_SR_init_73 : decode cd_SR_init 73 = .ok (.putfield 48, 3) := by decide +kernel
theorem dd_SR_init_76 : decode cd_SR_init 76 = .ok (.aload_n 0, 1) := by decide +kernel
theorem dd_SR_init_77 : decode cd_SR_init 77 = .ok (.iconst 4, 1) := by decide +kernel
theorem dd_SR_init_78 : decode cd_SR_init 78 = .ok (.newarray .int, 2) := by decide +kernel
theorem dd_SR_init_80 : decode cd_SR_init 80 = .ok (.putfield 52, 3) := by decide +kernel
theorem dd_SR_init_83 : decode cd_SR_init 83 = .ok (.return_, 1) := by decide +kernel
theorem dd_SR_feed_0 : decode cd_SR_feed 0 = .ok (.aload_n 0, 1) := by decide +kernel
theorem dd_SR_feed_1 : decode cd_SR_feed 1 = .ok (.getfield 12, 3) := by decide +kernel
theorem dd_SR_feed_4 : decode cd_SR_feed 4 = .ok (.invokevirtual 55, 3) := by decide +kernel
theorem dd_SR_feed_7 : decode cd_SR_feed 7 = .ok (.bipush 20, 2) := by decide +kernel
theorem dd_SR_feed_9 : decode cd_SR_feed 9 = .ok (.iadd, 1) := by decide +kernel
theorem dd_SR_feed_10 : decode cd_SR_feed 10 = .ok (.sipush 1200, 3) := by decide +kernel
theorem dd_SR_feed_13 : decode cd_SR_feed 13 = .ok (.if_icmp .le 11, 3) := by decide +kernel
theorem dd_SR_feed_24 : decode cd_SR_feed 24 = .ok (.aload_n 0, 1) := by decide +kernel
theorem dd_SR_feed_25 : decode cd_SR_feed 25 = .ok (.getfield 12, 3) := by decide +kernel
theorem dd_SR_feed_28 : decode cd_SR_feed 28 = .ok (.iload_n 1, 1) := by decide +kernel
theorem dd_SR_feed_29 : decode cd_SR_feed 29 = .ok (.invokevirtual 62, 3) := by decide +kernel
theorem dd_SR_feed_32 : decode cd_SR_feed 32 = .ok (.aload_n 0, 1) := by decide +kernel
theorem dd_SR_feed_33 : decode cd_SR_feed 33 = .ok (.getfield 12, 3) := by decide +kernel
theorem dd_SR_feed_36 : decode cd_SR_feed 36 = .ok (.iload_n 2, 1) := by decide +kernel
theorem dd_SR_feed_37 : decode cd_SR_feed 37 = .ok (.invokevirtual 62, 3) := by decide +kernel
theorem dd_SR_feed_40 : decode cd_SR_feed 40 = .ok (.aload_n 0, 1) := by decide +kernel
theorem dd_SR_feed_41 : decode cd_SR_feed 41 = .ok (.getfield 12, 3) := by decide +kernel
theorem dd_SR_feed_44 : decode cd_SR_feed 44 = .ok (.iload_n 3, 1) := by decide +kernel
theorem dd_SR_feed_45 : decode cd_SR_feed 45 = .ok (.invokevirtual 62, 3) := by decide +kernel
theorem dd_SR_feed_48 : decode cd_SR_feed 48 = .ok (.aload_n 0, 1) := by decide +kernel
theorem dd_SR_feed_49 : decode cd_SR_feed 49 = .ok (.getfield 12, 3) := by decide +kernel
theorem dd_SR_feed_52 : decode cd_SR_feed 52 = .ok (.iload 4, 2) := by decide +kernel
theorem dd_SR_feed_54 : decode cd_SR_feed 54 = .ok (.invokevirtual 62, 3) := by decide +kernel
theorem dd_SR_feed_57 : decode cd_SR_feed 57 = .ok (.aload_n 0, 1) := by decide +kernel
theorem dd_SR_feed_58 : decode cd_SR_feed 58 = .ok (.getfield 12, 3) := by decide +kernel
theorem dd_SR_feed_61 : decode cd_SR_feed 61 = .ok (.iload 5, 2) := by decide +kernel
theorem dd_SR_feed_63 : decode cd_SR_feed 63 = .ok (.invokevirtual 62, 3) := by decide +kernel
theorem dd_SR_feed_66 : decode cd_SR_feed 66 = .ok (.aload_n 0, 1) := by decide +kernel
theorem dd_SR_feed_67 : decode cd_SR_feed 67 = .ok (.getfield 21, 3) := by decide +kernel
theorem dd_SR_feed_70 : decode cd_SR_feed 70 = .ok (.invokevirtual 66, 3) := by decide +kernel
theorem dd_SR_feed_73 : decode cd_SR_feed 73 = .ok (.aload_n 0, 1) := by decide +kernel
theorem dd_SR_feed_74 : decode cd_SR_feed 74 = .ok (.getfield 12, 3) := by decide +kernel
theorem dd_SR_feed_77 : decode cd_SR_feed 77 = .ok (.invokevirtual 55, 3) := by decide +kernel
theorem dd_SR_feed_80 : decode cd_SR_feed 80 = .ok (.ireturn, 1) := by decide +kernel
theorem dd_SR_end_0 : decode cd_SR_end 0 = .ok (.iload_n 1, 1) := by decide +kernel
theorem dd_SR_end_1 : decode cd_SR_end 1 = .ok (.ifCond .lt 14, 3) := by decide +kernel
theorem dd_SR_end_4 : decode cd_SR_end 4 = .ok (.iload_n 1, 1) := by decide +kernel
theorem dd_SR_end_5 : decode cd_SR_end 5 = .ok (.aload_n 0, 1) := by decide +kernel
theorem dd_SR_end_6 : decode cd_SR_end 6 = .ok (.getfield 12, 3) := by decide +kernel
theorem dd_SR_end_9 : decode cd_SR_end 9 = .ok (.invokevirtual 55, 3) := by decide +kernel
theorem dd_SR_end_12 : decode cd_SR_end 12 = .ok (.if_icmp .le 11, 3) := by decide +kernel
theorem dd_SR_end_15 : decode cd_SR_end 15 = .ok (.new 69, 3) := by decide +kernel
theorem dd_SR_end_18 : decode cd_SR_end 18 = .ok (.dup, 1) := by decide +kernel
theorem dd_SR_end_19 : decode cd_SR_end 19 = .ok (.invokespecial 71, 3) := by decide +kernel
theorem dd_SR_end_22 : decode cd_SR_end 22 = .ok (.athrow, 1) := by decide +kernel
theorem dd_SR_end_23 : decode cd_SR_end 23 = .ok (.aload_n 0, 1) := by decide +kernel
theorem dd_SR_end_24 : decode cd_SR_end 24 = .ok (.getfield 12, 3) := by decide +kernel
theorem dd_SR_end_27 : decode cd_SR_end 27 = .ok (.iload_n 1, 1) := by decide +kernel
theorem dd_SR_end_28 : decode cd_SR_end 28 = .ok (.invokevirtual 72, 3) := by decide +kernel
theorem dd_SR_end_31 : decode cd_SR_end 31 = .ok (.aload_n 0, 1) := by decide +kernel
theorem dd_SR_end_32 : decode cd_SR_end 32 = .ok (.getfield 21, 3) := by decide +kernel
theorem dd_SR_end_35 : decode cd_SR_end 35 = .ok (.invokevirtual 66, 3) := by decide +kernel
theorem dd_SR_end_38 : decode cd_SR_end 38 = .ok (.return_, 1) := by decide +kernel
theorem dd_SR_byteAt_0 : decode cd_SR_byteAt 0 = .ok (.iload_n 1, 1) := by decide +kernel
theorem dd_SR_byteAt_1 : decode cd_SR_byteAt 1 = .ok (.ifCond .lt 14, 3) := by decide +kernel
theorem dd_SR_byteAt_4 : decode cd_SR_byteAt 4 = .ok (.iload_n 1, 1) := by decide +kernel
theorem dd_SR_byteAt_5 : decode cd_SR_byteAt 5 = .ok (.aload_n 0, 1) := by decide +kernel
theorem dd_SR_byteAt_6 : decode cd_SR_byteAt 6 = .ok (.getfield 12, 3) := by decide +kernel
theorem dd_SR_byteAt_9 : decode cd_SR_byteAt 9 = .ok (.invokevirtual 55, 3) := by decide +kernel
theorem dd_SR_byteAt_12 : decode cd_SR_byteAt 12 = .ok (.if_icmp .lt 11, 3) := by decide +kernel
theorem dd_SR_byteAt_15 : decode cd_SR_byteAt 15 = .ok (.new 75, 3) := by decide +kernel
theorem dd_SR_byteAt_18 : decode cd_SR_byteAt 18 = .ok (.dup, 1) := by decide +kernel
theorem dd_SR_byteAt_19 : decode cd_SR_byteAt 19 = .ok (.invokespecial 77, 3) := by decide +kernel
theorem dd_SR_byteAt_22 : decode cd_SR_byteAt 22 = .ok (.athrow, 1) := by decide +kernel
theorem dd_SR_codewords_0 : decode cd_SR_codewords 0 = .ok (.aload_n 0, 1) := by decide +kernel
theorem dd_SR_codewords_1 : decode cd_SR_codewords 1 = .ok (.getfield 21, 3) := by decide +kernel
theorem dd_SR_codewords_4 : decode cd_SR_codewords 4 = .ok (.invokevirtual 82, 3) := by decide +kernel
theorem dd_SR_codewords_7 : decode cd_SR_codewords 7 = .ok (.aload_n 0, 1) := by decide +kernel
theorem dd_SR_codewords_8 : decode cd_SR_codewords 8 = .ok (.getfield 21, 3) := by decide +kernel
theorem dd_SR_codewords_11 : decode cd_SR_codewords 11 = .ok (.invokevirtual 85, 3) := by decide +kernel
theorem dd_SR_codewords_14 : decode cd_SR_codewords 14 = .ok (.ireturn, 1) := by decide +kernel
theorem dd_SR_codeword_0 : decode cd_SR_codeword 0 = .ok (.aload_n 0, 1) := by decide +kernel
theorem dd_SR_codeword_1 : decode cd_SR_codeword 1 = .ok (.getfield 21, 3) := by decide +kernel
theorem dd_SR_codeword_4 : decode cd_SR_codeword 4 = .ok (.invokevirtual 82, 3) := by decide +kernel
theorem dd_SR_codeword_7 : decode cd_SR_codeword 7 = .ok (.iload_n 1, 1) := by decide +kernel
theorem dd_SR_codeword_8 : decode cd_SR_codeword 8 = .ok (.ifCond .lt 14, 3) := by decide +kernel
theorem dd_SR_codeword_11 : decode cd_SR_codeword 11 = .ok (.iload_n 1, 1) := by decide +kernel
theorem dd_SR_codeword_12 : decode cd_SR_codeword 12 = .ok (.aload_n 0, 1) := by decide +kernel
theorem dd_SR_codeword_13 : decode cd_SR_codeword 13 = .ok (.getfield 21, 3) := by decide +kernel
theorem dd_SR_codeword_16 : decode cd_SR_codeword 16 = .ok (.invokevirtual 85, 3) := by decide +kernel
theorem dd_SR_codeword_19 : decode cd_SR_codeword 19 = .ok (.if_icmp .lt 11, 3) := by decide +kernel
theorem dd_SR_codeword_22 : decode cd_SR_codeword 22 = .ok (.new 75, 3) := by decide +kernel
theorem dd_SR_codeword_25 : decode cd_SR_codeword 25 = .ok (.dup, 1) := by decide +kernel
theorem dd_SR_codeword_26 : decode cd_SR_codeword 26 = .ok (.invokespecial 77, 3) := by decide +kernel
theorem dd_SR_codeword_29 : decode cd_SR_codeword 29 = .ok (.athrow, 1) := by decide +kernel
theorem dd_SR_make_0 : decode cd_SR_make 0 = .ok (.iload_n 1, 1) := by decide +kernel
theorem dd_SR_make_1 : decode cd_SR_make 1 = .ok (.ifCond .lt 20, 3) := by decide +kernel
theorem dd_SR_make_4 : decode cd_SR_make 4 = .ok (.iload_n 1, 1) := by decide +kernel
theorem dd_SR_make_5 : decode cd_SR_make 5 = .ok (.bipush 8, 2) := by decide +kernel
theorem dd_SR_make_7 : decode cd_SR_make 7 = .ok (.if_icmp .gt 14, 3) := by decide +kernel
theorem dd_SR_make_10 : decode cd_SR_make 10 = .ok (.iload_n 2, 1) := by decide +kernel
theorem dd_SR_make_11 : decode cd_SR_make 11 = .ok (.iconst 1, 1) := by decide +kernel
theorem dd_SR_make_12 : decode cd_SR_make 12 = .ok (.if_icmp .lt 9, 3) := by decide +kernel
theorem dd_SR_make_15 : decode cd_SR_make 15 = .ok (.iload_n 2, 1) := by decide +kernel
theorem dd_SR_make_16 : decode cd_SR_make 16 = .ok (.bipush 30, 2) := by decide +kernel
theorem dd_SR_make_18 : decode cd_SR_make 18 = .ok (.if_icmp .le 11, 3) := by decide +kernel
theorem dd_SR_make_21 : decode cd_SR_make 21 = .ok (.new 69, 3) := by decide +kernel
theorem dd_SR_make_24 : decode cd_SR_make 24 = .ok (.dup, 1) := by decide +kernel
theorem dd_SR_make_25 : decode cd_SR_make 25 = .ok (.invokespecial 71, 3) := by decide +kernel
theorem dd_SR_make_28 : decode cd_SR_make 28 = .ok (.athrow, 1) := by decide +kernel
theorem dd_SR_make_29 : decode cd_SR_make 29 = .ok (.aload_n 0, 1) := by decide +kernel
theorem dd_SR_make_30 : decode cd_SR_make 30 = .ok (.getfield 21, 3) := by decide +kernel
theorem dd_SR_make_33 : decode cd_SR_make 33 = .ok (.invokevirtual 82, 3) := by decide +kernel
theorem dd_SR_make_36 : decode cd_SR_make 36 = .ok (.iload_n 1, 1) := by decide +kernel
theorem dd_SR_make_37 : decode cd_SR_make 37 = .ok (.invokestatic 87, 3) := by decide +kernel
theorem dd_SR_make_40 : decode cd_SR_make 40 = .ok (.istore_n 3, 1) := by decide +kernel
theorem dd_SR_make_41 : decode cd_SR_make 41 = .ok (.iconst 1, 1) := by decide +kernel
theorem dd_SR_make_42 : decode cd_SR_make 42 = .ok (.aload_n 0, 1) := by decide +kernel
theorem dd_SR_make_43 : decode cd_SR_make 43 = .ok (.getfield 21, 3) := by decide +kernel
theorem dd_SR_make_46 : decode cd_SR_make 46 = .ok (.invokevirtual 85, 3) := by decide +kernel
theorem dd_SR_make_49 : decode cd_SR_make 49 = .ok (.iadd, 1) := by decide +kernel
theorem dd_SR_make_50 : decode cd_SR_make 50 = .ok (.iload_n 3, 1) := by decide +kernel
theorem dd_SR_make_51 : decode cd_SR_make 51 = .ok (.iadd, 1) := by decide +kernel
theorem dd_SR_make_52 : decode cd_SR_make 52 = .ok (.iload_n 2, 1) := by decide +kernel
theorem dd_SR_make_53 : decode cd_SR_make 53 = .ok (.invokestatic 90, 3) := by decide +kernel
theorem dd_SR_make_56 : decode cd_SR_make 56 = .ok (.istore 4, 2) := by decide +kernel
theorem dd_SR_make_58 : decode cd_SR_make 58 = .ok (.iload 4, 2) := by decide +kernel
theorem dd_SR_make_60 : decode cd_SR_make 60 = .ok (.iload_n 2, 1) := by decide +kernel
theorem dd_SR_make_61 : decode cd_SR_make 61 = .ok (.imul, 1) := by decide +kernel
theorem dd_SR_make_62 : decode cd_SR_make 62 = .ok (.istore 5, 2) := by decide +kernel
theorem dd_SR_make_64 : decode cd_SR_make 64 = .ok (.iload 4, 2) := by decide +kernel
theorem dd_SR_make_66 : decode cd_SR_make 66 = .ok (.bipush 90, 2) := by decide +kernel
theorem dd_SR_make_68 : decode cd_SR_make 68 = .ok (.if_icmp .gt 11, 3) := by decide +kernel
theorem dd_SR_make_71 : decode cd_SR_make 71 = .ok (.iload 5, 2) := by decide +kernel
theorem dd_SR_make_73 : decode cd_SR_make 73 = .ok (.sipush 928, 3) := by decide +kernel
theorem dd_SR_make_76 : decode cd_SR_make 76 = .ok (.if_icmp .le 11, 3) := by decide +kernel
theorem dd_SR_make_79 : decode cd_SR_make 79 = .ok (.new 59, 3) := by decide +kernel
theorem dd_SR_make_82 : decode cd_SR_make 82 = .ok (.dup, 1) := by decide +kernel
theorem dd_SR_make_83 : decode cd_SR_make 83 = .ok (.invokespecial 61, 3) := by decide +kernel
theorem dd_SR_make_86 : decode cd_SR_make 86 = .ok (.athrow, 1) := by decide +kernel
theorem dd_SR_make_87 : decode cd_SR_make 87 = .ok (.aload_n 0, 1) := by decide +kernel
theorem dd_SR_make_88 : decode cd_SR_make 88 = .ok (.iload 5, 2) := by decide +kernel
theorem dd_SR_make_90 : decode cd_SR_make 90 = .ok (.iload_n 3, 1) := by decide +kernel
theorem dd_SR_make_91 : decode cd_SR_make 91 = .ok (.isub, 1) := by decide +kernel
theorem dd_SR_make_92 : decode cd_SR_make 92 = .ok (.invokevirtual 94, 3) := by decide +kernel
theorem dd_SR_make_95 : decode cd_SR_make 95 = .ok (.aload_n 0, 1) := by decide +kernel
theorem dd_SR_make_96 : decode cd_SR_make 96 = .ok (.getfield 28, 3) := by decide +kernel
theorem dd_SR_make_99 : decode cd_SR_make 99 = .ok (.aload_n 0, 1) := by decide +kernel
theorem dd_SR_make_100 : decode cd_SR_make 100 = .ok (.getfield 39, 3) := by decide +kernel
theorem dd_SR_make_103 : decode cd_SR_make 103 = .ok (.iload 5, 2) := by decide +kernel
theorem dd_SR_make_105 : decode cd_SR_make 105 = .ok (.iload_n 3, 1) := by decide +kernel
theorem dd_SR_make_106 : decode cd_SR_make 106 = .ok (.invokevirtual 97, 3) := by decide +kernel
theorem dd_SR_make_109 : decode cd_SR_make 109 = .ok (.aload_n 0, 1) := by decide +kernel
theorem dd_SR_make_110 : decode cd_SR_make 110 = .ok (.getfield 35, 3) := by decide +kernel
theorem dd_SR_make_113 : decode cd_SR_make 113 = .ok (.iload 4, 2) := by decide +kernel
theorem dd_SR_make_115 : decode cd_SR_make 115 = .ok (.iload_n 2, 1) := by decide +kernel
theorem dd_SR_make_116 : decode cd_SR_make 116 = .ok (.invokevirtual 100, 3) := by decide +kernel
theorem dd_SR_make_119 : decode cd_SR_make 119 = .ok (.aload_n 0, 1) := by decide +kernel
theorem dd_SR_make_120 : decode cd_SR_make 120 = .ok (.getfield 35, 3) := by decide +kernel
theorem dd_SR_make_123 : decode cd_SR_make 123 = .ok (.aload_n 0, 1) := by decide +kernel
theorem dd_SR_make_124 : decode cd_SR_make 124 = .ok (.getfield 39, 3) := by decide +kernel
theorem dd_SR_make_127 : decode cd_SR_make 127 = .ok (.iload_n 1, 1) := by decide +kernel
theorem dd_SR_make_128 : decode cd_SR_make 128 = .ok (.invokevirtual 104, 3) := by decide +kernel
theorem dd_SR_make_131 : decode cd_SR_make 131 = .ok (.iload 4, 2) := by decide +kernel
theorem dd_SR_make_133 : decode cd_SR_make 133 = .ok (.ireturn, 1) := by decide +kernel
theorem dd_SR_fillRow_0 : decode cd_SR_fillRow 0 = .ok (.aload_n 0, 1) := by decide +kernel
theorem dd_SR_fillRow_1 : decode cd_SR_fillRow 1 = .ok (.getfield 39, 3) := by decide +kernel
theorem dd_SR_fillRow_4 : decode cd_SR_fillRow 4 = .ok (.iconst 0, 1) := by decide +kernel
theorem dd_SR_fillRow_5 : decode cd_SR_fillRow 5 = .ok (.iload_n 1, 1) := by decide +kernel
theorem dd_SR_fillRow_6 : decode cd_SR_fillRow 6 = .ok (.iastore, 1) := by decide +kernel
theorem dd_SR_fillRow_7 : decode cd_SR_fillRow 7 = .ok (.iconst 1, 1) := by decide +kernel
theorem dd_SR_fillRow_8 : decode cd_SR_fillRow 8 = .ok (.istore_n 2, 1) := by decide +kernel
theorem dd_SR_fillRow_9 : decode cd_SR_fillRow 9 = .ok (.iload_n 2, 1) := by decide +kernel
theorem dd_SR_fillRow_10 : decode cd_SR_fillRow 10 = .ok (.iload_n 1, 1) := by decide +kernel
theorem dd_SR_fillRow_11 : decode cd_SR_fillRow 11 = .ok (.if_icmp .ge 42, 3) := by decide +kernel
theorem dd_SR_fillRow_14 : decode cd_SR_fillRow 14 = .ok (.aload_n 0, 1) := by decide +kernel
theorem dd_SR_fillRow_15 : decode cd_SR_fillRow 15 = .ok (.getfield 39, 3) := by decide +kernel
theorem dd_SR_fillRow_18 : decode cd_SR_fillRow 18 = .ok (.iload_n 2, 1) := by decide +kernel
theorem dd_SR_fillRow_19 : decode cd_SR_fillRow 19 = .ok (.iload_n 2, 1) := by decide +kernel
theorem dd_SR_fillRow_20 : decode cd_SR_fillRow 20 = .ok (.aload_n 0, 1) := by decide +kernel
theorem dd_SR_fillRow_21 : decode cd_SR_fillRow 21 = .ok (.getfield 21, 3) := by decide +kernel
theorem dd_SR_fillRow_24 : decode cd_SR_fillRow 24 = .ok (.invokevirtual 85, 3) := by decide +kernel
theorem dd_SR_fillRow_27 : decode cd_SR_fillRow 27 = .ok (.if_icmp .gt 16, 3) := by decide +kernel
theorem dd_SR_fillRow_43 : decode cd_SR_fillRow 43 = .ok (.sipush 900, 3) := by decide +kernel
theorem dd_SR_fillRow_46 : decode cd_SR_fillRow 46 = .ok (.iastore, 1) := by decide +kernel
theorem dd_SR_fillRow_47 : decode cd_SR_fillRow 47 = .ok (.iinc 2 1, 3) := by decide +kernel
theorem dd_SR_fillRow_50 : decode cd_SR_fillRow 50 = .ok (.goto (-41), 3) := by decide +kernel
theorem dd_SR_fillRow_53 : decode cd_SR_fillRow 53 = .ok (.return_, 1) := by decide +kernel
theorem dd_SR_blank_0 : decode cd_SR_blank 0 = .ok (.iload_n 1, 1) := by decide +kernel
theorem dd_SR_blank_1 : decode cd_SR_blank 1 = .ok (.iconst 3, 1) := by decide +kernel
theorem dd_SR_blank_2 : decode cd_SR_blank 2 = .ok (.if_icmp .lt 20, 3) := by decide +kernel
theorem dd_SR_blank_5 : decode cd_SR_blank 5 = .ok (.iload_n 1, 1) := by decide +kernel
theorem dd_SR_blank_6 : decode cd_SR_blank 6 = .ok (.bipush 90, 2) := by decide +kernel
theorem dd_SR_blank_8 : decode cd_SR_blank 8 = .ok (.if_icmp .gt 14, 3) := by decide +kernel
theorem dd_SR_blank_11 : decode cd_SR_blank 11 = .ok (.iload_n 2, 1) := by decide +kernel
theorem dd_SR_blank_12 : decode cd_SR_blank 12 = .ok (.iconst 1, 1) := by decide +kernel
theorem dd_SR_blank_13 : decode cd_SR_blank 13 = .ok (.if_icmp .lt 9, 3) := by decide +kernel
theorem dd_SR_blank_16 : decode cd_SR_blank 16 = .ok (.iload_n 2, 1) := by decide +kernel
theorem dd_SR_blank_17 : decode cd_SR_blank 17 = .ok (.bipush 30, 2) := by decide +kernel
theorem dd_SR_blank_19 : decode cd_SR_blank 19 = .ok (.if_icmp .le 11, 3) := by decide +kernel
theorem dd_SR_blank_22 : decode cd_SR_blank 22 = .ok (.new 69, 3) := by decide +kernel
theorem dd_SR_blank_25 : decode cd_SR_blank 25 = .ok (.dup, 1) := by decide +kernel
theorem dd_SR_blank_26 : decode cd_SR_blank 26 = .ok (.invokespecial 71, 3) := by decide +kernel
theorem dd_SR_blank_29 : decode cd_SR_blank 29 = .ok (.athrow, 1) := by decide +kernel
theorem dd_SR_blank_30 : decode cd_SR_blank 30 = .ok (.iload_n 1, 1) := by decide +kernel
theorem dd_SR_blank_31 : decode cd_SR_blank 31 = .ok (.iload_n 2, 1) := by decide +kernel
theorem dd_SR_blank_32 : decode cd_SR_blank 32 = .ok (.imul, 1) := by decide +kernel
theorem dd_SR_blank_33 : decode cd_SR_blank 33 = .ok (.sipush 928, 3) := by decide +kernel
theorem dd_SR_blank_36 : decode cd_SR_blank 36 = .ok (.if_icmp .le 11, 3) := by decide +kernel
theorem dd_SR_blank_39 : decode cd_SR_blank 39 = .ok (.new 69, 3) := by decide +kernel
theorem dd_SR_blank_42 : decode cd_SR_blank 42 = .ok (.dup, 1) := by decide +kernel
theorem dd_SR_blank_43 : decode cd_SR_blank 43 = .ok (.invokespecial 71, 3) := by decide +kernel
theorem dd_SR_blank_46 : decode cd_SR_blank 46 = .ok (.athrow, 1) := by decide +kernel
theorem dd_SR_blank_47 : decode cd_SR_blank 47 = .ok (.aload_n 0, 1) := by decide +kernel
theorem dd_SR_blank_48 : decode cd_SR_blank 48 = .ok (.getfield 35, 3) := by decide +kernel
theorem dd_SR_blank_51 : decode cd_SR_blank 51 = .ok (.iload_n 1, 1) := by decide +kernel
theorem dd_SR_blank_52 : decode cd_SR_blank 52 = .ok (.iload_n 2, 1) := by decide +kernel
theorem dd_SR_blank_53 : decode cd_SR_blank 53 = .ok (.invokevirtual 100, 3) := by decide +kernel
theorem dd_SR_blank_56 : decode cd_SR_blank 56 = .ok (.return_, 1) := by decide +kernel
theorem dd_SR_place_0 : decode cd_SR_place 0 = .ok (.aload_n 0, 1) := by decide +kernel
theorem dd_SR_place_1 : decode cd_SR_place 1 = .ok (.getfield 35, 3) := by decide +kernel
theorem dd_SR_place_4 : decode cd_SR_place 4 = .ok (.invokevirtual 108, 3) := by decide +kernel
theorem dd_SR_place_7 : decode cd_SR_place 7 = .ok (.ifCond .ne 11, 3) := by decide +kernel
theorem dd_SR_place_10 : decode cd_SR_place 10 = .ok (.new 112, 3) := by decide +kernel
theorem dd_SR_place_13 : decode cd_SR_place 13 = .ok (.dup, 1) := by decide +kernel
theorem dd_SR_place_14 : decode cd_SR_place 14 = .ok (.invokespecial 114, 3) := by decide +kernel
theorem dd_SR_place_17 : decode cd_SR_place 17 = .ok (.athrow, 1) := by decide +kernel
theorem dd_SR_put_0 : decode cd_SR_put 0 = .ok (.aload_n 0, 1) := by decide +kernel
theorem dd_SR_put_1 : decode cd_SR_put 1 = .ok (.getfield 35, 3) := by decide +kernel
theorem dd_SR_put_4 : decode cd_SR_put 4 = .ok (.invokevirtual 108, 3) := by decide +kernel
theorem dd_SR_put_7 : decode cd_SR_put 7 = .ok (.ifCond .ne 11, 3) := by decide +kernel
theorem dd_SR_put_10 : decode cd_SR_put 10 = .ok (.new 112, 3) := by decide +kernel
theorem dd_SR_put_13 : decode cd_SR_put 13 = .ok (.dup, 1) := by decide +kernel
theorem dd_SR_put_14 : decode cd_SR_put 14 = .ok (.invokespecial 114, 3) := by decide +kernel
theorem dd_SR_put_17 : decode cd_SR_put 17 = .ok (.athrow, 1) := by decide +kernel
theorem dd_SR_solve_0 : decode cd_SR_solve 0 = .ok (.aload_n 0, 1) := by decide +kernel
theorem dd_SR_solve_1 : decode cd_SR_solve 1 = .ok (.getfield 35, 3) := by decide +kernel
theorem dd_SR_solve_4 : decode cd_SR_solve 4 = .ok (.invokevirtual 108, 3) := by decide +kernel
theorem dd_SR_solve_7 : decode cd_SR_solve 7 = .ok (.ifCond .ne 11, 3) := by decide +kernel
theorem dd_SR_solve_10 : decode cd_SR_solve 10 = .ok (.new 112, 3) := by decide +kernel
theorem dd_SR_solve_13 : decode cd_SR_solve 13 = .ok (.dup, 1) := by decide +kernel
theorem dd_SR_solve_14 : decode cd_SR_solve 14 = .ok (.invokespecial 114, 3) := by decide +kernel
theorem dd_SR_solve_17 : decode cd_SR_solve 17 = .ok (.athrow, 1) := by decide +kernel
theorem dd_SR_solved_0 : decode cd_SR_solved 0 = .ok (.iload_n 1, 1) := by decide +kernel
theorem dd_SR_solved_1 : decode cd_SR_solved 1 = .ok (.ifCond .lt 12, 3) := by decide +kernel
theorem dd_SR_solved_4 : decode cd_SR_solved 4 = .ok (.iload_n 1, 1) := by decide +kernel
theorem dd_SR_solved_5 : decode cd_SR_solved 5 = .ok (.aload_n 0, 1) := by decide +kernel
theorem dd_SR_solved_6 : decode cd_SR_solved 6 = .ok (.getfield 52, 3) := by decide +kernel
theorem dd_SR_solved_9 : decode cd_SR_solved 9 = .ok (.arraylength, 1) := by decide +kernel
theorem dd_SR_solved_10 : decode cd_SR_solved 10 = .ok (.if_icmp .lt 11, 3) := by decide +kernel
theorem dd_SR_solved_13 : decode cd_SR_solved 13 = .ok (.new 75, 3) := by decide +kernel
theorem dd_SR_solved_16 : decode cd_SR_solved 16 = .ok (.dup, 1) := by decide +kernel
theorem dd_SR_solved_17 : decode cd_SR_solved 17 = .ok (.invokespecial 77, 3) := by decide +kernel
theorem dd_SR_solved_20 : decode cd_SR_solved 20 = .ok (.athrow, 1) := by decide +kernel
theorem dd_SR_solved_21 : decode cd_SR_solved 21 = .ok (.aload_n 0, 1) := by decide +kernel
theorem dd_SR_solved_22 : decode cd_SR_solved 22 = .ok (.getfield 52, 3) := by decide +kernel
theorem dd_SR_solved_25 : decode cd_SR_solved 25 = .ok (.iload_n 1, 1) := by decide +kernel
theorem dd_SR_solved_26 : decode cd_SR_solved 26 = .ok (.iaload, 1) := by decide +kernel
theorem dd_SR_solved_27 : decode cd_SR_solved 27 = .ok (.ireturn, 1) := by decide +kernel
theorem dd_SR_count_0 : decode cd_SR_count 0 = .ok (.iload_n 1, 1) := by decide +kernel
theorem dd_SR_count_1 : decode cd_SR_count 1 = .ok (.ifCond .lt 8, 3) := by decide +kernel
theorem dd_SR_count_4 : decode cd_SR_count 4 = .ok (.iload_n 1, 1) := by decide +kernel
theorem dd_SR_count_5 : decode cd_SR_count 5 = .ok (.iconst 2, 1) := by decide +kernel
theorem dd_SR_count_6 : decode cd_SR_count 6 = .ok (.if_icmp .le 11, 3) := by decide +kernel
theorem dd_SR_count_9 : decode cd_SR_count 9 = .ok (.new 69, 3) := by decide +kernel
theorem dd_SR_count_12 : decode cd_SR_count 12 = .ok (.dup, 1) := by decide +kernel
theorem dd_SR_count_13 : decode cd_SR_count 13 = .ok (.invokespecial 71, 3) := by decide +kernel
theorem dd_SR_count_16 : decode cd_SR_count 16 = .ok (.athrow, 1) := by decide +kernel
theorem dd_SR_count_17 : decode cd_SR_count 17 = .ok (.iload_n 1, 1) := by decide +kernel
theorem dd_SR_count_18 : decode cd_SR_count 18 = .ok (.ifCond .ne 11, 3) := by decide +kernel
theorem dd_SR_count_21 : decode cd_SR_count 21 = .ok (.aload_n 0, 1) := by decide +kernel
theorem dd_SR_count_22 : decode cd_SR_count 22 = .ok (.getfield 12, 3) := by decide +kernel
theorem dd_SR_count_25 : decode cd_SR_count 25 = .ok (.invokevirtual 55, 3) := by decide +kernel
theorem dd_SR_count_28 : decode cd_SR_count 28 = .ok (.ireturn, 1) := by decide +kernel
theorem dd_SR_count_29 : decode cd_SR_count 29 = .ok (.iload_n 1, 1) := by decide +kernel
theorem dd_SR_count_30 : decode cd_SR_count 30 = .ok (.iconst 1, 1) := by decide +kernel
theorem dd_SR_count_31 : decode cd_SR_count 31 = .ok (.if_icmp .ne 13, 3) := by decide +kernel
theorem dd_SR_count_34 : decode cd_SR_count 34 = .ok (.aload_n 0, 1) := by decide +kernel
theorem dd_SR_count_35 : decode cd_SR_count 35 = .ok (.getfield 35, 3) := by decide +kernel
theorem dd_SR_count_38 : decode cd_SR_count 38 = .ok (.invokevirtual 145, 3) := by decide +kernel
theorem dd_SR_count_41 : decode cd_SR_count 41 = .ok (.goto 10, 3) := by decide +kernel
theorem dd_SR_count_44 : decode cd_SR_count 44 = .ok (.aload_n 0, 1) := by decide +kernel
theorem dd_SR_count_45 : decode cd_SR_count 45 = .ok (.getfield 35, 3) := by decide +kernel
theorem dd_SR_count_48 : decode cd_SR_count 48 = .ok (.invokevirtual 148, 3) := by decide +kernel
theorem dd_SR_count_51 : decode cd_SR_count 51 = .ok (.ireturn, 1) := by decide +kernel
theorem dd_LW_feed_0 : decode cd_LW_feed 0 = .ok (.aload 6, 2) := by decide +kernel
theorem dd_LW_feed_2 : decode cd_LW_feed 2 = .ok (.iconst 0, 1) := by decide +kernel
theorem dd_LW_feed_3 : decode cd_LW_feed 3 = .ok (.aload_n 0, 1) := by decide +kernel
theorem dd_LW_feed_4 : decode cd_LW_feed 4 = .ok (.iload_n 1, 1) := by decide +kernel
theorem dd_LW_feed_5 : decode cd_LW_feed 5 = .ok (.iload_n 2, 1) := by decide +kernel
theorem dd_LW_feed_6 : decode cd_LW_feed 6 = .ok (.iload_n 3, 1) := by decide +kernel
theorem dd_LW_feed_7 : decode cd_LW_feed 7 = .ok (.iload 4, 2) := by decide +kernel
theorem dd_LW_feed_9 : decode cd_LW_feed 9 = .ok (.iload 5, 2) := by decide +kernel
theorem dd_LW_feed_11 : decode cd_LW_feed 11 = .ok (.invokevirtual 7, 3) := by decide +kernel
theorem dd_LW_feed_14 : decode cd_LW_feed 14 = .ok (.i2l, 1) := by decide +kernel
theorem dd_LW_feed_15 : decode cd_LW_feed 15 = .ok (.lastore, 1) := by decide +kernel
theorem dd_LW_feed_16 : decode cd_LW_feed 16 = .ok (.goto 7, 3) := by decide +kernel
theorem dd_LW_feed_23 : decode cd_LW_feed 23 = .ok (.iconst 0, 1) := by decide +kernel
theorem dd_LW_feed_24 : decode cd_LW_feed 24 = .ok (.ireturn, 1) := by decide +kernel
theorem dd_LW_end_0 : decode cd_LW_end 0 = .ok (.aload_n 0, 1) := by decide +kernel
theorem dd_LW_end_1 : decode cd_LW_end 1 = .ok (.iload_n 1, 1) := by decide +kernel
theorem dd_LW_end_2 : decode cd_LW_end 2 = .ok (.invokevirtual 15, 3) := by decide +kernel
theorem dd_LW_end_5 : decode cd_LW_end 5 = .ok (.goto 6, 3) := by decide +kernel
theorem dd_LW_end_8 : decode cd_LW_end 8 = .ok (.astore_n 2, 1) := by decide +kernel
theorem dd_LW_end_9 : decode cd_LW_end 9 = .ok (.iconst 1, 1) := by decide +kernel
theorem dd_LW_end_10 : decode cd_LW_end 10 = .ok (.ireturn, 1) := by decide +kernel
theorem dd_LW_end_11 : decode cd_LW_end 11 = .ok (.iconst 0, 1) := by decide +kernel
theorem dd_LW_end_12 : decode cd_LW_end 12 = .ok (.ireturn, 1) := by decide +kernel
theorem dd_LW_byteAt_0 : decode cd_LW_byteAt 0 = .ok (.aload_n 2, 1) := by decide +kernel
theorem dd_LW_byteAt_1 : decode cd_LW_byteAt 1 = .ok (.iconst 0, 1) := by decide +kernel
theorem dd_LW_byteAt_2 : decode cd_LW_byteAt 2 = .ok (.aload_n 0, 1) := by decide +kernel
theorem dd_LW_byteAt_3 : decode cd_LW_byteAt 3 = .ok (.iload_n 1, 1) := by decide +kernel
theorem dd_LW_byteAt_4 : decode cd_LW_byteAt 4 = .ok (.invokevirtual 21, 3) := by decide +kernel
theorem dd_LW_byteAt_12 : decode cd_LW_byteAt 12 = .ok (.astore_n 3, 1) := by decide +kernel
theorem dd_LW_byteAt_13 : decode cd_LW_byteAt 13 = .ok (.iconst 1, 1) := by decide +kernel
theorem dd_LW_byteAt_14 : decode cd_LW_byteAt 14 = .ok (.ireturn, 1) := by decide +kernel
theorem dd_LW_codeword_0 : decode cd_LW_codeword 0 = .ok (.aload_n 2, 1) := by decide +kernel
theorem dd_LW_codeword_1 : decode cd_LW_codeword 1 = .ok (.iconst 0, 1) := by decide +kernel
theorem dd_LW_codeword_2 : decode cd_LW_codeword 2 = .ok (.aload_n 0, 1) := by decide +kernel
theorem dd_LW_codeword_3 : decode cd_LW_codeword 3 = .ok (.iload_n 1, 1) := by decide +kernel
theorem dd_LW_codeword_4 : decode cd_LW_codeword 4 = .ok (.invokevirtual 27, 3) := by decide +kernel
theorem dd_LW_codeword_12 : decode cd_LW_codeword 12 = .ok (.astore_n 3, 1) := by decide +kernel
theorem dd_LW_codeword_13 : decode cd_LW_codeword 13 = .ok (.iconst 1, 1) := by decide +kernel
theorem dd_LW_codeword_14 : decode cd_LW_codeword 14 = .ok (.ireturn, 1) := by decide +kernel
theorem dd_LW_make_0 : decode cd_LW_make 0 = .ok (.aload_n 3, 1) := by decide +kernel
theorem dd_LW_make_1 : decode cd_LW_make 1 = .ok (.iconst 0, 1) := by decide +kernel
theorem dd_LW_make_2 : decode cd_LW_make 2 = .ok (.aload_n 0, 1) := by decide +kernel
theorem dd_LW_make_3 : decode cd_LW_make 3 = .ok (.iload_n 1, 1) := by decide +kernel
theorem dd_LW_make_4 : decode cd_LW_make 4 = .ok (.iload_n 2, 1) := by decide +kernel
theorem dd_LW_make_5 : decode cd_LW_make 5 = .ok (.invokevirtual 30, 3) := by decide +kernel
theorem dd_LW_make_8 : decode cd_LW_make 8 = .ok (.i2l, 1) := by decide +kernel
theorem dd_LW_make_9 : decode cd_LW_make 9 = .ok (.lastore, 1) := by decide +kernel
theorem dd_LW_make_10 : decode cd_LW_make 10 = .ok (.goto 11, 3) := by decide +kernel
theorem dd_LW_make_13 : decode cd_LW_make 13 = .ok (.astore 4, 2) := by decide +kernel
theorem dd_LW_make_15 : decode cd_LW_make 15 = .ok (.iconst 1, 1) := by decide +kernel
theorem dd_LW_make_16 : decode cd_LW_make 16 = .ok (.ireturn, 1) := by decide +kernel
theorem dd_LW_make_17 : decode cd_LW_make 17 = .ok (.astore 4, 2) := by decide +kernel
theorem dd_LW_make_19 : decode cd_LW_make 19 = .ok (.iconst 2, 1) := by decide +kernel
theorem dd_LW_make_20 : decode cd_LW_make 20 = .ok (.ireturn, 1) := by decide +kernel
theorem dd_LW_make_21 : decode cd_LW_make 21 = .ok (.iconst 0, 1) := by decide +kernel
theorem dd_LW_make_22 : decode cd_LW_make 22 = .ok (.ireturn, 1) := by decide +kernel
theorem dd_LW_blank_0 : decode cd_LW_blank 0 = .ok (.aload_n 0, 1) := by decide +kernel
theorem dd_LW_blank_1 : decode cd_LW_blank 1 = .ok (.iload_n 1, 1) := by decide +kernel
theorem dd_LW_blank_2 : decode cd_LW_blank 2 = .ok (.iload_n 2, 1) := by decide +kernel
theorem dd_LW_blank_3 : decode cd_LW_blank 3 = .ok (.invokevirtual 34, 3) := by decide +kernel
theorem dd_LW_blank_6 : decode cd_LW_blank 6 = .ok (.goto 6, 3) := by decide +kernel
theorem dd_LW_blank_9 : decode cd_LW_blank 9 = .ok (.astore_n 3, 1) := by decide +kernel
theorem dd_LW_blank_10 : decode cd_LW_blank 10 = .ok (.iconst 1, 1) := by decide +kernel
theorem dd_LW_blank_11 : decode cd_LW_blank 11 = .ok (.ireturn, 1) := by decide +kernel
theorem dd_LW_blank_12 : decode cd_LW_blank 12 = .ok (.iconst 0, 1) := by decide +kernel
theorem dd_LW_blank_13 : decode cd_LW_blank 13 = .ok (.ireturn, 1) := by decide +kernel
theorem dd_LW_place_0 : decode cd_LW_place 0 = .ok (.aload_n 3, 1) := by decide +kernel
theorem dd_LW_place_1 : decode cd_LW_place 1 = .ok (.iconst 0, 1) := by decide +kernel
theorem dd_LW_place_2 : decode cd_LW_place 2 = .ok (.aload_n 0, 1) := by decide +kernel
theorem dd_LW_place_3 : decode cd_LW_place 3 = .ok (.iload_n 1, 1) := by decide +kernel
theorem dd_LW_place_4 : decode cd_LW_place 4 = .ok (.iload_n 2, 1) := by decide +kernel
theorem dd_LW_place_5 : decode cd_LW_place 5 = .ok (.invokevirtual 38, 3) := by decide +kernel
theorem dd_LW_place_13 : decode cd_LW_place 13 = .ok (.astore 4, 2) := by decide +kernel
theorem dd_LW_place_15 : decode cd_LW_place 15 = .ok (.iconst 1, 1) := by decide +kernel
theorem dd_LW_place_16 : decode cd_LW_place 16 = .ok (.ireturn, 1) := by decide +kernel
theorem dd_LW_put_0 : decode cd_LW_put 0 = .ok (.aload_n 0, 1) := by decide +kernel
theorem dd_LW_put_1 : decode cd_LW_put 1 = .ok (.iload_n 1, 1) := by decide +kernel
theorem dd_LW_put_2 : decode cd_LW_put 2 = .ok (.iload_n 2, 1) := by decide +kernel
theorem dd_LW_put_3 : decode cd_LW_put 3 = .ok (.iload_n 3, 1) := by decide +kernel
theorem dd_LW_put_4 : decode cd_LW_put 4 = .ok (.invokevirtual 43, 3) := by decide +kernel
theorem dd_LW_put_10 : decode cd_LW_put 10 = .ok (.astore 4, 2) := by decide +kernel
theorem dd_LW_put_12 : decode cd_LW_put 12 = .ok (.iconst 1, 1) := by decide +kernel
theorem dd_LW_put_13 : decode cd_LW_put 13 = .ok (.ireturn, 1) := by decide +kernel
theorem dd_LW_solve_0 : decode cd_LW_solve 0 = .ok (.aload_n 1, 1) := by decide +kernel
theorem dd_LW_solve_1 : decode cd_LW_solve 1 = .ok (.iconst 0, 1) := by decide +kernel
theorem dd_LW_solve_2 : decode cd_LW_solve 2 = .ok (.aload_n 0, 1) := by decide +kernel
theorem dd_LW_solve_3 : decode cd_LW_solve 3 = .ok (.invokevirtual 47, 3) := by decide +kernel
theorem dd_LW_solve_11 : decode cd_LW_solve 11 = .ok (.astore_n 2, 1) := by decide +kernel
theorem dd_LW_solve_12 : decode cd_LW_solve 12 = .ok (.iconst 1, 1) := by decide +kernel
theorem dd_LW_solve_13 : decode cd_LW_solve 13 = .ok (.ireturn, 1) := by decide +kernel
theorem dd_LW_solved_0 : decode cd_LW_solved 0 = .ok (.aload_n 2, 1) := by decide +kernel
theorem dd_LW_solved_1 : decode cd_LW_solved 1 = .ok (.iconst 0, 1) := by decide +kernel
theorem dd_LW_solved_2 : decode cd_LW_solved 2 = .ok (.aload_n 0, 1) := by decide +kernel
theorem dd_LW_solved_3 : decode cd_LW_solved 3 = .ok (.iload_n 1, 1) := by decide +kernel
theorem dd_LW_solved_4 : decode cd_LW_solved 4 = .ok (.invokevirtual 51, 3) := by decide +kernel
theorem dd_LW_solved_7 : decode cd_LW_solved 7 = .ok (.i2l, 1) := by decide +kernel
theorem dd_LW_solved_8 : decode cd_LW_solved 8 = .ok (.lastore, 1) := by decide +kernel
theorem dd_LW_solved_9 : decode cd_LW_solved 9 = .ok (.goto 6, 3) := by decide +kernel
theorem dd_LW_solved_12 : decode cd_LW_solved 12 = .ok (.astore_n 3, 1) := by decide +kernel
theorem dd_LW_solved_13 : decode cd_LW_solved 13 = .ok (.iconst 1, 1) := by decide +kernel
theorem dd_LW_solved_14 : decode cd_LW_solved 14 = .ok (.ireturn, 1) := by decide +kernel
theorem dd_LW_solved_15 : decode cd_LW_solved 15 = .ok (.iconst 0, 1) := by decide +kernel
theorem dd_LW_solved_16 : decode cd_LW_solved 16 = .ok (.ireturn, 1) := by decide +kernel
theorem dd_LW_count_0 : decode cd_LW_count 0 = .ok (.aload_n 2, 1) := by decide +kernel
theorem dd_LW_count_1 : decode cd_LW_count 1 = .ok (.iconst 0, 1) := by decide +kernel
theorem dd_LW_count_2 : decode cd_LW_count 2 = .ok (.aload_n 0, 1) := by decide +kernel
theorem dd_LW_count_3 : decode cd_LW_count 3 = .ok (.iload_n 1, 1) := by decide +kernel
theorem dd_LW_count_4 : decode cd_LW_count 4 = .ok (.invokevirtual 54, 3) := by decide +kernel
theorem dd_LW_count_7 : decode cd_LW_count 7 = .ok (.i2l, 1) := by decide +kernel
theorem dd_LW_count_8 : decode cd_LW_count 8 = .ok (.lastore, 1) := by decide +kernel
theorem dd_LW_count_9 : decode cd_LW_count 9 = .ok (.goto 6, 3) := by decide +kernel
theorem dd_LW_count_12 : decode cd_LW_count 12 = .ok (.astore_n 3, 1) := by decide +kernel
theorem dd_LW_count_13 : decode cd_LW_count 13 = .ok (.iconst 1, 1) := by decide +kernel
theorem dd_LW_count_14 : decode cd_LW_count 14 = .ok (.ireturn, 1) := by decide +kernel
theorem dd_LW_count_15 : decode cd_LW_count 15 = .ok (.iconst 0, 1) := by decide +kernel
theorem dd_LW_count_16 : decode cd_LW_count 16 = .ok (.ireturn, 1) := by decide +kernel
end
section
theorem dd_MO_init_0 : decode cd_MO_init 0 = .ok (.aload_n 0, 1) := by decide +kernel
theorem dd_MO_init_1 : decode cd_MO_init 1 = .ok (.invokespecial 1, 3) := by decide +kernel
theorem dd_MO_init_4 : decode cd_MO_init 4 = .ok (.aload_n 0, 1) := by decide +kernel
theorem dd_MO_init_5 : decode cd_MO_init 5 = .ok (.sipush 1220, 3) := by decide +kernel
theorem dd_MO_init_8 : decode cd_MO_init 8 = .ok (.newarray .int, 2) := by decide +kernel
theorem dd_MO_init_10 : decode cd_MO_init 10 = .ok (.putfield 7, 3) := by decide +kernel
theorem dd_MO_init_13 : decode cd_MO_init 13 = .ok (.aload_n 0, 1) := by decide +kernel
theorem dd_MO_init_14 : decode cd_MO_init 14 = .ok (.sipush 5000, 3) := by decide +kernel
theorem dd_MO_init_17 : decode cd_MO_init 17 = .ok (.newarray .int, 2) := by decide +kernel
theorem dd_MO_init_19 : decode cd_MO_init 19 = .ok (.putfield 13, 3) := by decide +kernel
theorem dd_MO_init_22 : decode cd_MO_init 22 = .ok (.aload_n 0, 1) := by decide +kernel
theorem dd_MO_init_23 : decode cd_MO_init 23 = .ok (.bipush 25, 2) := by decide +kernel
theorem dd_MO_init_25 : decode cd_MO_init 25 = .ok (.newarray .int, 2) := by decide +kernel
theorem dd_MO_init_27 : decode cd_MO_init 27 = .ok (.dup, 1) := by decide +kernel
theorem dd_MO_init_28 : decode cd_MO_init 28 = .ok (.iconst 0, 1) := by decide +kernel
theorem dd_MO_init_29 : decode cd_MO_init 29 = .ok (.bipush 48, 2) := by decide +kernel
theorem dd_MO_init_31 : decode cd_MO_init 31 = .ok (.iastore, 1) := by decide +kernel
theorem dd_MO_init_32 : decode cd_MO_init 32 = .ok (.dup, 1) := by decide +kernel
theorem dd_MO_init_33 : decode cd_MO_init 33 = .ok (.iconst 1, 1) := by decide +kernel
theorem dd_MO_init_34 : decode cd_MO_init 34 = .ok (.bipush 49, 2) := by decide +kernel
theorem dd_MO_init_36 : decode cd_MO_init 36 = .ok (.iastore, 1) := by decide +kernel
theorem dd_MO_init_37 : decode cd_MO_init 37 = .ok (.dup, 1) := by decide +kernel
theorem dd_MO_init_38 : decode cd_MO_init 38 = .ok (.iconst 2, 1) := by decide +kernel
theorem dd_MO_init_39 : decode cd_MO_init 39 = .ok (.bipush 50, 2) := by decide +kernel
theorem dd_MO_init_41 : decode cd_MO_init 41 = .ok (.iastore, 1) := by decide +kernel
theorem dd_MO_init_42 : decode cd_MO_init 42 = .ok (.dup, 1) := by decide +kernel
theorem dd_MO_init_43 : decode cd_MO_init 43 = .ok (.iconst 3, 1) := by decide +kernel
theorem dd_MO_init_44 : decode cd_MO_init 44 = .ok (.bipush 51, 2) := by decide +kernel
theorem dd_MO_init_46 : decode cd_MO_init 46 = .ok (.iastore, 1) := by decide +kernel
theorem dd_MO_init_47 : decode cd_MO_init 47 = .ok (.dup, 1) := by decide +kernel
theorem dd_MO_init_48 : decode cd_MO_init 48 = .ok (.iconst 4, 1) := by decide +kernel
theorem dd_MO_init_49 : decode cd_MO_init 49 = .ok (.bipush 52, 2) := by decide +kernel
theorem dd_MO_init_51 : decode cd_MO_init 51 = .ok (.iastore, 1) := by decide +kernel
theorem dd_MO_init_52 : decode cd_MO_init 52 = .ok (.dup, 1) := by decide +kernel
theorem dd_MO_init_53 : decode cd_MO_init 53 = .ok (.iconst 5, 1) := by decide +kernel
theorem dd_MO_init_54 : decode cd_MO_init 54 = .ok (.bipush 53, 2) := by decide +kernel
theorem dd_MO_init_56 : decode cd_MO_init 56 = .ok (.iastore, 1) := by decide +kernel
theorem dd_MO_init_57 : decode cd_MO_init 57 = .ok (.dup, 1) := by decide +kernel
theorem dd_MO_init_58 : decode cd_MO_init 58 = .ok (.bipush 6, 2) := by decide +kernel
theorem dd_MO_init_60 : decode cd_MO_init 60 = .ok (.bipush 54, 2) := by decide +kernel
theorem dd_MO_init_62 : decode cd_MO_init 62 = .ok (.iastore, 1) := by decide +kernel
theorem dd_MO_init_63 : decode cd_MO_init 63 = .ok (.dup, 1) := by decide +kernel
theorem dd_MO_init_64 : decode cd_MO_init 64 = .ok (.bipush 7, 2) := by decide +kernel
theorem dd_MO_init_66 : decode cd_MO_init 66 = .ok (.bipush 55, 2) := by decide +kernel
theorem dd_MO_init_68 : decode cd_MO_init 68 = .ok (.iastore, 1) := by decide +kernel
theorem dd_MO_init_69 : decode cd_MO_init 69 = .ok (.dup, 1) := by decide +kernel
theorem dd_MO_init_70 : decode cd_MO_init 70 = .ok (.bipush 8, 2) := by decide +kernel
theorem dd_MO_init_72 : decode cd_MO_init 72 = .ok (.bipush 56, 2) := by decide +kernel
theorem dd_MO_init_74 : decode cd_MO_init 74 = .ok (.iastore, 1) := by decide +kernel
theorem dd_MO_init_75 : decode cd_MO_init 75 = .ok (.dup, 1) := by decide +kernel
theorem dd_MO_init_76 : decode cd_MO_init 76 = .ok (.bipush 9, 2) := by decide +kernel
theorem dd_MO_init_78 : decode cd_MO_init 78 = .ok (.bipush 57, 2) := by decide +kernel
theorem dd_MO_init_80 : decode cd_MO_init 80 = .ok (.iastore, 1) := by decide +kernel
theorem dd_MO_init_81 : decode cd_MO_init 81 = .ok (.dup, 1) := by decide +kernel
theorem dd_MO_init_82 : decode cd_MO_init 82 = .ok (.bipush 10, 2) := by decide +kernel
theorem dd_MO_init_84 : decode cd_MO_init 84 = .ok (.bipush 38, 2) := by decide +kernel
theorem dd_MO_init_86 : decode cd_MO_init 86 = .ok (.iastore, 1) := by decide +kernel
theorem dd_MO_init_87 : decode cd_MO_init 87 = .ok (.dup, 1) := by decide +kernel
theorem dd_MO_init_88 : decode cd_MO_init 88 = .ok (.bipush 11, 2) := by decide +kernel
theorem dd_MO_init_90 : decode cd_MO_init 90 = .ok (.bipush 13, 2) := by decide +kernel
theorem dd_MO_init_92 : decode cd_MO_init 92 = .ok (.iastore, 1) := by decide +kernel
theorem dd_MO_init_93 : decode cd_MO_init 93 = .ok (.dup, 1) := by decide +kernel
theorem dd_MO_init_94 : decode cd_MO_init 94 = .ok (.bipush 12, 2) := by decide +kernel
theorem dd_MO_init_96 : decode cd_MO_init 96 = .ok (.bipush 9, 2) := by decide +kernel
theorem dd_MO_init_98 : decode cd_MO_init 98 = .ok (.iastore, 1) := by decide +kernel
theorem dd_MO_init_99 : decode cd_MO_init 99 = .ok (.dup, 1) := by decide +kernel
theorem dd_MO_init_100 : decode cd_MO_init 100 = .ok (.bipush 13, 2) := by decide +kernel
theorem dd_MO_init_102 : decode cd_MO_init 102 = .ok (.bipush 44, 2) := by decide +kernel
theorem dd_MO_init_104 : decode cd_MO_init 104 = .ok (.iastore, 1) := by decide +kernel
theorem dd_MO_init_105 : decode cd_MO_init 105 = .ok (.dup, 1) := by decide +kernel
theorem dd_MO_init_106 : decode cd_MO_init 106 = .ok (.bipush 14, 2) := by decide +kernel
theorem dd_MO_init_108 : decode cd_MO_init 108 = .ok (.bipush 58, 2) := by decide +kernel
theorem dd_MO_init_110 : decode cd_MO_init 110 = .ok (.iastore, 1) := by decide +kernel
theorem dd_MO_init_111 : decode cd_MO_init 111 = .ok (.dup, 1) := by decide +kernel
theorem dd_MO_init_112 : decode cd_MO_init 112 = .ok (.bipush 15, 2) := by decide +kernel
theorem dd_MO_init_114 : decode cd_MO_init 114 = .ok (.bipush 35, 2) := by decide +kernel
theorem dd_MO_init_116 : decode cd_MO_init 116 = .ok (.iastore, 1) := by decide +kernel
theorem dd_MO_init_117 : decode cd_MO_init 117 = .ok (.dup, 1) := by decide +kernel
theorem dd_MO_init_118 : decode cd_MO_init 118 = .ok (.bipush 16, 2) := by decide +kernel
theorem dd_MO_init_120 : decode cd_MO_init 120 = .ok (.bipush 45, 2) := by decide +kernel
theorem dd_MO_init_122 : decode cd_MO_init 122 = .ok (.iastore, 1) := by decide +kernel
theorem dd_MO_init_123 : decode cd_MO_init 123 = .ok (.dup, 1) := by decide +kernel
theorem dd_MO_init_124 : decode cd_MO_init 124 = .ok (.bipush 17, 2) := by decide +kernel
theorem dd_MO_init_126 : decode cd_MO_init 126 = .ok (.bipush 46, 2) := by decide +kernel
theorem dd_MO_init_128 : decode cd_MO_init 128 = .ok (.iastore, 1) := by decide +kernel
theorem dd_MO_init_129 : decode cd_MO_init 129 = .ok (.dup, 1) := by decide +kernel
theorem dd_MO_init_130 : decode cd_MO_init 130 = .ok (.bipush 18, 2) := by decide +kernel
theorem dd_MO_init_132 : decode cd_MO_init 132 = .ok (.bipush 36, 2) := by decide +kernel
theorem dd_MO_init_134 : decode cd_MO_init 134 = .ok (.iastore, 1) := by decide +kernel
theorem dd_MO_init_135 : decode cd_MO_init 135 = .ok (.dup, 1) := by decide +kernel
theorem dd_MO_init_136 : decode cd_MO_init 136 = .ok (.bipush 19, 2) := by decide +kernel
theorem dd_MO_init_138 : decode cd_MO_init 138 = .ok (.bipush 47, 2) := by decide +kernel
theorem dd_MO_init_140 : decode cd_MO_init 140 = .ok (.iastore, 1) := by decide +kernel
theorem dd_MO_init_141 : decode cd_MO_init 141 = .ok (.dup, 1) := by decide +kernel
theorem dd_MO_init_142 : decode cd_MO_init 142 = .ok (.bipush 20, 2) := by decide +kernel
theorem dd_MO_init_144 : decode cd_MO_init 144 = .ok (.bipush 43, 2) := by decide +kernel
theorem dd_MO_init_146 : decode cd_MO_init 146 = .ok (.iastore, 1) := by decide +kernel
theorem dd_MO_init_147 : decode cd_MO_init 147 = .ok (.dup, 1) := by decide +kernel
theorem dd_MO_init_148 : decode cd_MO_init 148 = .ok (.bipush 21, 2) := by decide +kernel
theorem dd_MO_init_150 : decode cd_MO_init 150 = .ok (.bipush 37, 2) := by decide +kernel
theorem dd_MO_init_152 : decode cd_MO_init 152 = .ok (.iastore, 1) := by decide +kernel
theorem dd_MO_init_153 : decode cd_MO_init 153 = .ok (.dup, 1) := by decide +kernel
theorem dd_MO_init_154 : decode cd_MO_init 154 = .ok (.bipush 22, 2) := by decide +kernel
theorem dd_MO_init_156 : decode cd_MO_init 156 = .ok (.bipush 42, 2) := by decide +kernel
theorem dd_MO_init_158 : decode cd_MO_init 158 = .ok (.iastore, 1) := by decide +kernel
theorem dd_MO_init_159 : decode cd_MO_init 159 = .ok (.dup, 1) := by decide +kernel
theorem dd_MO_init_160 : decode cd_MO_init 160 = .ok (.bipush 23, 2) := by decide +kernel
theorem dd_MO_init_162 : decode cd_MO_init 162 = .ok (.bipush 61, 2) := by decide +kernel
theorem dd_MO_init_164 : decode cd_MO_init 164 = .ok (.iastore, 1) := by decide +kernel
theorem dd_MO_init_165 : decode cd_MO_init 165 = .ok (.dup, 1) := by decide +kernel
theorem dd_MO_init_166 : decode cd_MO_init 166 = .ok (.bipush 24, 2) := by decide +kernel
theorem dd_MO_init_168 : decode cd_MO_init 168 = .ok (.bipush 94, 2) := by decide +kernel
theorem dd_MO_init_170 : decode cd_MO_init 170 = .ok (.iastore, 1) := by decide +kernel
theorem dd_MO_init_171 : decode cd_MO_init 171 = .ok (.putfield 16, 3) := by decide +kernel
theorem dd_MO_init_174 : decode cd_MO_init 174 = .ok (.aload_n 0, 1) := by decide +kernel
theorem dd_MO_init_175 : decode cd_MO_init 175 = .ok (.bipush 29, 2) := by decide +kernel
theorem dd_MO_init_177 : decode cd_MO_init 177 = .ok (.newarray .int, 2) := by decide +kernel
theorem dd_MO_init_179 : decode cd_MO_init 179 = .ok (.dup, 1) := by decide +kernel
theorem dd_MO_init_180 : decode cd_MO_init 180 = .ok (.iconst 0, 1) := by decide +kernel
theorem dd_MO_init_181 : decode cd_MO_init 181 = .ok (.bipush 59, 2) := by decide +kernel
theorem dd_MO_init_183 : decode cd_MO_init 183 = .ok (.iastore, 1) := by decide +kernel
theorem dd_MO_init_184 : decode cd_MO_init 184 = .ok (.dup, 1) := by decide +kernel
theorem dd_MO_init_185 : decode cd_MO_init 185 = .ok (.iconst 1, 1) := by decide +kernel
theorem dd_MO_init_186 : decode cd_MO_init 186 = .ok (.bipush 60, 2) := by decide +kernel
theorem dd_MO_init_188 : decode cd_MO_init 188 = .ok (.iastore, 1) := by decide +kernel
theorem dd_MO_init_189 : decode cd_MO_init 189 = .ok (.dup, 1) := by decide +kernel
theorem dd_MO_init_190 : decode cd_MO_init 190 = .ok (.iconst 2, 1) := by decide +kernel
theorem dd_MO_init_191 : decode cd_MO_init 191 = .ok (.bipush 62, 2) := by decide +kernel
theorem dd_MO_init_193 : decode cd_MO_init 193 = .ok (.iastore, 1) := by decide +kernel
theorem dd_MO_init_194 : decode cd_MO_init 194 = .ok (.dup, 1) := by decide +kernel
theorem dd_MO_init_195 : decode cd_MO_init 195 = .ok (.iconst 3, 1) := by decide +kernel
theorem dd_MO_init_196 : decode cd_MO_init 196 = .ok (.bipush 64, 2) := by decide +kernel
theorem dd_MO_init_198 : decode cd_MO_init 198 = .ok (.iastore, 1) := by decide +kernel
theorem dd_MO_init_199 : decode cd_MO_init 199 = .ok (.dup, 1) := by decide +kernel
theorem dd_MO_init_200 : decode cd_MO_init 200 = .ok (.iconst 4, 1) := by decide +kernel
theorem dd_MO_init_201 : decode cd_MO_init 201 = .ok (.bipush 91, 2) := by decide +kernel
theorem dd_MO_init_203 : decode cd_MO_init 203 = .ok (.iastore, 1) := by decide +kernel
theorem dd_MO_init_204 : decode cd_MO_init 204 = .ok (.dup, 1) := by decide +kernel
theorem dd_MO_init_205 : decode cd_MO_init 205 = .ok (.iconst 5, 1) := by decide +kernel
theorem dd_MO_init_206 : decode cd_MO_init 206 = .ok (.bipush 92, 2) := by decide +kernel
theorem dd_MO_init_208 : decode cd_MO_init 208 = .ok (.iastore, 1) := by decide +kernel
theorem dd_MO_init_209 : decode cd_MO_init 209 = .ok (.dup, 1) := by decide +kernel
theorem dd_MO_init_210 : decode cd_MO_init 210 = .ok (.bipush 6, 2) := by decide +kernel
theorem dd_MO_init_212 : decode cd_MO_init 212 = .ok (.bipush 93, 2) := by decide +kernel
theorem dd_MO_init_214 : decode cd_MO_init 214 = .ok (.iastore, 1) := by decide +kernel
theorem dd_MO_init_215 : decode cd_MO_init 215 = .ok (.dup, 1) := by decide +kernel
theorem dd_MO_init_216 : decode cd_MO_init 216 = .ok (.bipush 7, 2) := by decide +kernel
theorem dd_MO_init_218 : decode cd_MO_init 218 = .ok (.bipush 95, 2) := by decide +kernel
theorem dd_MO_init_220 : decode cd_MO_init 220 = .ok (.iastore, 1) := by decide +kernel
theorem dd_MO_init_221 : decode cd_MO_init 221 = .ok (.dup, 1) := by decide +kernel
theorem dd_MO_init_222 : decode cd_MO_init 222 = .ok (.bipush 8, 2) := by decide +kernel
theorem dd_MO_init_224 : decode cd_MO_init 224 = .ok (.bipush 96, 2) := by decide +kernel
theorem dd_MO_init_226 : decode cd_MO_init 226 = .ok (.iastore, 1) := by decide +kernel
theorem dd_MO_init_227 : decode cd_MO_init 227 = .ok (.dup, 1) := by decide +kernel
theorem dd_MO_init_228 : decode cd_MO_init 228 = .ok (.bipush 9, 2) := by decide +kernel
theorem dd_MO_init_230 : decode cd_MO_init 230 = .ok (.bipush 126, 2) := by decide +kernel
theorem dd_MO_init_232 : decode cd_MO_init 232 = .ok (.iastore, 1) := by decide +kernel
theorem dd_MO_init_233 : decode cd_MO_init 233 = .ok (.dup, 1) := by decide +kernel
theorem dd_MO_init_234 : decode cd_MO_init 234 = .ok (.bipush 10, 2) := by decide +kernel
theorem dd_MO_init_236 : decode cd_MO_init 236 = .ok (.bipush 33, 2) := by decide +kernel
theorem dd_MO_init_238 : decode cd_MO_init 238 = .ok (.iastore, 1) := by decide +kernel
theorem dd_MO_init_239 : decode cd_MO_init 239 = .ok (.dup, 1) := by decide +kernel
theorem dd_MO_init_240 : decode cd_MO_init 240 = .ok (.bipush 11, 2) := by decide +kernel
theorem dd_MO_init_242 : decode cd_MO_init 242 = .ok (.bipush 13, 2) := by decide +kernel
theorem dd_MO_init_244 : decode cd_MO_init 244 = .ok (.iastore, 1) := by decide +kernel
theorem dd_MO_init_245 : decode cd_MO_init 245 = .ok (.dup, 1) := by decide +kernel
theorem dd_MO_init_246 : decode cd_MO_init 246 = .ok (.bipush 12, 2) := by decide +kernel
theorem dd_MO_init_248 : decode cd_MO_init 248 = .ok (.bipush 9, 2) := by decide +kernel
theorem dd_MO_init_250 : decode cd_MO_init 250 = .ok (.iastore, 1) := by decide +kernel
theorem dd_MO_init_251 : decode cd_MO_init 251 = .ok (.dup, 1) := by decide +kernel
theorem dd_MO_init_252 : decode cd_MO_init 252 = .ok (.bipush 13, 2) := by decide +kernel
theorem dd_MO_init_254 : decode cd_MO_init 254 = .ok (.bipush 44, 2) := by decide +kernel
theorem dd_MO_init_256 : decode cd_MO_init 256 = .ok (.iastore, 1) := by decide +kernel
theorem dd_MO_init_257 : decode cd_MO_init 257 = .ok (.dup, 1) := by decide +kernel
theorem dd_MO_init_258 : decode cd_MO_init 258 = .ok (.bipush 14, 2) := by decide +kernel
theorem dd_MO_init_260 : decode cd_MO_init 260 = .ok (.bipush 58, 2) := by decide +kernel
theorem dd_MO_init_262 : decode cd_MO_init 262 = .ok (.iastore, 1) := by decide +kernel
theorem dd_MO_init_263 : decode cd_MO_init 263 = .ok (.dup, 1) := by decide +kernel
theorem dd_MO_init_264 : decode cd_MO_init 264 = .ok (.bipush 15, 2) := by decide +kernel
theorem dd_MO_init_266 : decode cd_MO_init 266 = .ok (.bipush 10, 2) := by decide +kernel
theorem dd_MO_init_268 : decode cd_MO_init 268 = .ok (.iastore, 1) := by decide +kernel
theorem dd_MO_init_269 : decode cd_MO_init 269 = .ok (.dup, 1) := by decide +kernel
theorem dd_MO_init_270 : decode cd_MO_init 270 = .ok (.bipush 16, 2) := by decide +kernel
theorem dd_MO_init_272 : decode cd_MO_init 272 = .ok (.bipush 45, 2) := by decide +kernel
theorem dd_MO_init_274 : decode cd_MO_init 274 = .ok (.iastore, 1) := by decide +kernel
theorem dd_MO_init_275 : decode cd_MO_init 275 = .ok (.dup, 1) := by decide +kernel
theorem dd_MO_init_276 : decode cd_MO_init 276 = .ok (.bipush 17, 2) := by decide +kernel
theorem dd_MO_init_278 : decode cd_MO_init 278 = .ok (.bipush 46, 2) := by decide +kernel
theorem dd_MO_init_280 : decode cd_MO_init 280 = .ok (.iastore, 1) := by decide +kernel
theorem dd_MO_init_281 : decode cd_MO_init 281 = .ok (.dup, 1) := by decide +kernel
theorem dd_MO_init_282 : decode cd_MO_init 282 = .ok (.bipush 18, 2) := by decide +kernel
theorem dd_MO_init_284 : decode cd_MO_init 284 = .ok (.bipush 36, 2) := by decide +kernel
theorem dd_MO_init_286 : decode cd_MO_init 286 = .ok (.iastore, 1) := by decide +kernel
theorem dd_MO_init_287 : decode cd_MO_init 287 = .ok (.dup, 1) := by decide +kernel
theorem dd_MO_init_288 : decode cd_MO_init 288 = .ok (.bipush 19, 2) := by decide +kernel
theorem dd_MO_init_290 : decode cd_MO_init 290 = .ok (.bipush 47, 2) := by decide +kernel
theorem dd_MO_init_292 : decode cd_MO_init 292 = .ok (.iastore, 1) := by decide +kernel
theorem dd_MO_init_293 : decode cd_MO_init 293 = .ok (.dup, 1) := by decide +kernel
theorem dd_MO_init_294 : decode cd_MO_init 294 = .ok (.bipush 20, 2) := by decide +kernel
theorem dd_MO_init_296 : decode cd_MO_init 296 = .ok (.bipush 34, 2) := by decide +kernel
theorem dd_MO_init_298 : decode cd_MO_init 298 = .ok (.iastore, 1) := by decide +kernel
theorem dd_MO_init_299 : decode cd_MO_init 299 = .ok (.dup, 1) := by decide +kernel
theorem dd_MO_init_300 : decode cd_MO_init 300 = .ok (.bipush 21, 2) := by decide +kernel
theorem dd_MO_init_302 : decode cd_MO_init 302 = .ok (.bipush 124, 2) := by decide +kernel
theorem dd_MO_init_304 : decode cd_MO_init 304 = .ok (.iastore, 1) := by decide +kernel
theorem dd_MO_init_305 : decode cd_MO_init 305 = .ok (.dup, 1) := by decide +kernel
theorem dd_MO_init_306 : decode cd_MO_init 306 = .ok (.bipush 22, 2) := by decide +kernel
theorem dd_MO_init_308 : decode cd_MO_init 308 = .ok (.bipush 42, 2) := by decide +kernel
theorem dd_MO_init_310 : decode cd_MO_init 310 = .ok (.iastore, 1) := by decide +kernel
theorem dd_MO_init_311 : decode cd_MO_init 311 = .ok (.dup, 1) := by decide +kernel
theorem dd_MO_init_312 : decode cd_MO_init 312 = .ok (.bipush 23, 2) := by decide +kernel
theorem dd_MO_init_314 : decode cd_MO_init 314 = .ok (.bipush 40, 2) := by decide +kernel
theorem dd_MO_init_316 : decode cd_MO_init 316 = .ok (.iastore, 1) := by decide +kernel
theorem dd_MO_init_317 : decode cd_MO_init 317 = .ok (.dup, 1) := by decide +kernel
theorem dd_MO_init_318 : decode cd_MO_init 318 = .ok (.bipush 24, 2) := by decide +kernel
theorem dd_MO_init_320 : decode cd_MO_init 320 = .ok (.bipush 41, 2) := by decide +kernel
theorem dd_MO_init_322 : decode cd_MO_init 322 = .ok (.iastore, 1) := by decide +kernel
theorem dd_MO_init_323 : decode cd_MO_init 323 = .ok (.dup, 1) := by decide +kernel
theorem dd_MO_init_324 : decode cd_MO_init 324 = .ok (.bipush 25, 2) := by decide +kernel
theorem dd_MO_init_326 : decode cd_MO_init 326 = .ok (.bipush 63, 2) := by decide +kernel
theorem dd_MO_init_328 : decode cd_MO_init 328 = .ok (.iastore, 1) := by decide +kernel
theorem dd_MO_init_329 : decode cd_MO_init 329 = .ok (.dup, 1) := by decide +kernel
theorem dd_MO_init_330 : decode cd_MO_init 330 = .ok (.bipush 26, 2) := by decide +kernel
theorem dd_MO_init_332 : decode cd_MO_init 332 = .ok (.bipush 123, 2) := by decide +kernel
theorem dd_MO_init_334 : decode cd_MO_init 334 = .ok (.iastore, 1) := by decide +kernel
theorem dd_MO_init_335 : decode cd_MO_init 335 = .ok (.dup, 1) := by decide +kernel
theorem dd_MO_init_336 : decode cd_MO_init 336 = .ok (.bipush 27, 2) := by decide +kernel
theorem dd_MO_init_338 : decode cd_MO_init 338 = .ok (.bipush 125, 2) := by decide +kernel
theorem dd_MO_init_340 : decode cd_MO_init 340 = .ok (.iastore, 1) := by decide +kernel
theorem dd_MO_init_341 : decode cd_MO_init 341 = .ok (.dup, 1) := by decide +kernel
theorem dd_MO_init_342 : decode cd_MO_init 342 = .ok (.bipush 28, 2) := by decide +kernel
theorem dd_MO_init_344 : decode cd_MO_init 344 = .ok (.bipush 39, 2) := by decide +kernel
theorem dd_MO_init_346 : decode cd_MO_init 346 = .ok (.iastore, 1) := by decide +kernel
theorem dd_MO_init_347 : decode cd_MO_init 347 = .ok (.putfield 19, 3) := by decide +kernel
theorem dd_MO_init_350 : decode cd_MO_init 350 = .ok (.aload_n 0, 1) := by decide +kernel
theorem dd_MO_init_351 : decode cd_MO_init 351 = .ok (.sipush 2900, 3) := by decide +kernel
theorem dd_MO_init_354 : decode cd_MO_init 354 = .ok (.newarray .int, 2) := by decide +kernel
theorem dd_MO_init_356 : decode cd_MO_init 356 = .ok (.putfield 22, 3) := by decide +kernel
theorem dd_MO_init_359 : decode cd_MO_init 359 = .ok (.aload_n 0, 1) := by decide +kernel
theorem dd_MO_init_360 : decode cd_MO_init 360 = .ok (.sipush 928, 3) := by decide +kernel
theorem dd_MO_init_363 : decode cd_MO_init 363 = .ok (.newarray .int, 2) := by decide +kernel
theorem dd_MO_init_365 : decode cd_MO_init 365 = .ok (.putfield 25, 3) := by decide +kernel
theorem dd_MO_init_368 : decode cd_MO_init 368 = .ok (.aload_n 0, 1) := by decide +kernel
theorem dd_MO_init_369 : decode cd_MO_init 369 = .ok (.sipush 928, 3) := by decide +kernel
theorem dd_MO_init_372 : decode cd_MO_init 372 = .ok (.newarray .boolean, 2) := by decide +kernel
theorem dd_MO_init_374 : decode cd_MO_init 374 = .ok (.putfield 28, 3) := by decide +kernel
theorem dd_MO_init_377 : decode cd_MO_init 377 = .ok (.aload_n 0, 1) := by decide +kernel
theorem dd_MO_init_378 : decode cd_MO_init 378 = .ok (.sipush 929, 3) := by decide +kernel
theorem dd_MO_init_381 : decode cd_MO_init 381 = .ok (.newarray .int, 2) := by decide +kernel
theorem dd_MO_init_383 : decode cd_MO_init 383 = .ok (.putfield 32, 3) := by decide +kernel
theorem dd_MO_init_386 : decode cd_MO_init 386 = .ok (.aload_n 0, 1) := by decide +kernel
theorem dd_MO_init_387 : decode cd_MO_init 387 = .ok (.sipush 930, 3) := by decide +kernel
theorem dd_MO_init_390 : decode cd_MO_init 390 = .ok (.newarray .int, 2) := by decide +kernel
theorem dd_MO_init_392 : decode cd_MO_init 392 = .ok (.putfield 35, 3) := by decide +kernel
theorem dd_MO_init_395 : decode cd_MO_init 395 = .ok (.aload_n 0, 1) := by decide +kernel
theorem dd_MO_init_396 : decode cd_MO_init 396 = .ok (.bipush 90, 2) := by decide +kernel
theorem dd_MO_init_398 : decode cd_MO_init 398 = .ok (.newarray .int, 2) := by decide +kernel
theorem dd_MO_init_400 : decode cd_MO_init 400 = .ok (.putfield 38, 3) := by decide +kernel
theorem dd_MO_init_403 : decode cd_MO_init 403 = .ok (.aload_n 0, 1) := by decide +kernel
theorem dd_MO_init_404 : decode cd_MO_init 404 = .ok (.sipush 1860, 3) := by decide +kernel
theorem dd_MO_init_407 : decode cd_MO_init 407 = .ok (.newarray .int, 2) := by decide +kernel
theorem dd_MO_init_409 : decode cd_MO_init 409 = .ok (.putfield 41, 3) := by decide +kernel
theorem dd_MO_init_412 : decode cd_MO_init 412 = .ok (.aload_n 0, 1) := by decide +kernel
theorem dd_MO_init_413 : decode cd_MO_init 413 = .ok (.sipush 1860, 3) := by decide +kernel
theorem dd_MO_init_416 : decode cd_MO_init 416 = .ok (.newarray .int, 2) := by decide +kernel
theorem dd_MO_init_418 : decode cd_MO_init 418 = .ok (.putfield 44, 3) := by decide +kernel
theorem dd_MO_init_421 : decode cd_MO_init 421 = .ok (.aload_n 0, 1) := by decide +kernel
theorem dd_MO_init_422 : decode cd_MO_init 422 = .ok (.sipush 1860, 3) := by decide +kernel
theorem dd_MO_init_425 : decode cd_MO_init 425 = .ok (.newarray .int, 2) := by decide +kernel
theorem dd_MO_init_427 : decode cd_MO_init 427 = .ok (.putfield 47, 3) := by decide +kernel
theorem dd_MO_init_430 : decode cd_MO_init 430 = .ok (.aload_n 0, 1) := by decide +kernel
theorem dd_MO_init_431 : decode cd_MO_init 431 = .ok (.sipush 1860, 3) := by decide +kernel
theorem dd_MO_init_434 : decode cd_MO_init 434 = .ok (.newarray .int, 2) := by decide +kernel
theorem dd_MO_init_436 : decode cd_MO_init 436 = .ok (.putfield 50, 3) := by decide +kernel
theorem dd_MO_init_439 : decode cd_MO_init 439 = .ok (.aload_n 0, 1) := by decide +kernel
theorem dd_MO_init_440 : decode cd_MO_init 440 = .ok (.sipush 1860, 3) := by decide +kernel
theorem dd_MO_init_443 : decode cd_MO_init 443 = .ok (.newarray .int, 2) := by decide +kernel
theorem dd_MO_init_445 : decode cd_MO_init 445 = .ok (.putfield 53, 3) := by decide +kernel
theorem dd_MO_init_448 : decode cd_MO_init 448 = .ok (.aload_n 0, 1) := by decide +kernel
theorem dd_MO_init_449 : decode cd_MO_init 449 = .ok (.sipush 1860, 3) := by decide +kernel
theorem dd_MO_init_452 : decode cd_MO_init 452 = .ok (.newarray .int, 2) := by decide +kernel
theorem dd_MO_init_454 : decode cd_MO_init 454 = .ok (.putfield 56, 3) := by decide +kernel
theorem dd_MO_init_457 : decode cd_MO_init 457 = .ok (.aload_n 0, 1) := by decide +kernel
theorem dd_MO_init_458 : decode cd_MO_init 458 = .ok (.sipush 928, 3) := by decide +kernel
theorem dd_MO_init_461 : decode cd_MO_init 461 = .ok (.newarray .boolean, 2) := by decide +kernel
theorem dd_MO_init_463 : decode cd_MO_init 463 = .ok (.putfield 59, 3) := by decide +kernel
theorem dd_MO_init_466 : decode cd_MO_init 466 = .ok (.aload_n 0, 1) := by decide +kernel
theorem dd_MO_init_467 : decode cd_MO_init 467 = .ok (.sipush 1200, 3) := by decide +kernel
theorem dd_MO_init_470 : decode cd_MO_init 470 = .ok (.newarray .int, 2) := by decide +kernel
theorem dd_MO_init_472 : decode cd_MO_init 472 = .ok (.putfield 62, 3) := by decide +kernel
theorem dd_MO_init_475 : decode cd_MO_init 475 = .ok (.aload_n 0, 1) := by decide +kernel
theorem dd_MO_init_476 : decode cd_MO_init 476 = .ok (.bipush 60, 2) := by decide +kernel
theorem dd_MO_init_478 : decode cd_MO_init 478 = .ok (.newarray .int, 2) := by decide +kernel
theorem dd_MO_init_480 : decode cd_MO_init 480 = .ok (.putfield 65, 3) := by decide +kernel
theorem dd_MO_init_483 : decode cd_MO_init 483 = .ok (.iconst 1, 1) := by decide +kernel
theorem dd_MO_init_484 : decode cd_MO_init 484 = .ok (.istore_n 1, 1) := by decide +kernel
theorem dd_MO_init_485 : decode cd_MO_init 485 = .ok (.iconst 0, 1) := by decide +kernel
theorem dd_MO_init_486 : decode cd_MO_init 486 = .ok (.istore_n 2, 1) := by decide +kernel
theorem dd_MO_init_487 : decode cd_MO_init 487 = .ok (.iload_n 2, 1) := by decide +kernel
theorem dd_MO_init_488 : decode cd_MO_init 488 = .ok (.sipush 929, 3) := by decide +kernel
theorem dd_MO_init_491 : decode cd_MO_init 491 = .ok (.if_icmp .ge 24, 3) := by decide +kernel
theorem dd_MO_init_494 : decode cd_MO_init 494 = .ok (.aload_n 0, 1) := by decide +kernel
theorem dd_MO_init_495 : decode cd_MO_init 495 = .ok (.getfield 32, 3) := by decide +kernel
theorem dd_MO_init_498 : decode cd_MO_init 498 = .ok (.iload_n 2, 1) := by decide +kernel
theorem dd_MO_init_499 : decode cd_MO_init 499 = .ok (.iload_n 1, 1) := by decide +kernel
theorem dd_MO_init_500 : decode cd_MO_init 500 = .ok (.iastore, 1) := by decide +kernel
theorem dd_MO_init_501 : decode cd_MO_init 501 = .ok (.iload_n 1, 1) := by decide +kernel
theorem dd_MO_init_502 : decode cd_MO_init 502 = .ok (.iconst 3, 1) := by decide +kernel
theorem dd_MO_init_503 : decode cd_MO_init 503 = .ok (.imul, 1) := by decide +kernel
theorem dd_MO_init_504 : decode cd_MO_init 504 = .ok (.sipush 929, 3) := by decide +kernel
theorem dd_MO_init_507 : decode cd_MO_init 507 = .ok (.irem, 1) := by decide +kernel
theorem dd_MO_init_508 : decode cd_MO_init 508 = .ok (.istore_n 1, 1) := by decide +kernel
theorem dd_MO_init_509 : decode cd_MO_init 509 = .ok (.iinc 2 1, 3) := by decide +kernel
theorem dd_MO_init_512 : decode cd_MO_init 512 = .ok (.goto (-25), 3) := by decide +kernel
theorem dd_MO_init_515 : decode cd_MO_init 515 = .ok (.return_, 1) := by decide +kernel
theorem dd_MO_thrown_0 : decode cd_MO_thrown 0 = .ok (.aload_n 0, 1) := by decide +kernel
theorem dd_MO_thrown_1 : decode cd_MO_thrown 1 = .ok (.getfield 68, 3) := by decide +kernel
theorem dd_MO_thrown_4 : decode cd_MO_thrown 4 = .ok (.ireturn, 1) := by decide +kernel
theorem dd_MO_writeAll_0 : decode cd_MO_writeAll 0 = .ok (.aload_n 0, 1) := by decide +kernel
theorem dd_MO_writeAll_1 : decode cd_MO_writeAll 1 = .ok (.iconst 0, 1) := by decide +kernel
theorem dd_MO_writeAll_2 : decode cd_MO_writeAll 2 = .ok (.putfield 89, 3) := by decide +kernel
theorem dd_MO_writeAll_5 : decode cd_MO_writeAll 5 = .ok (.aload_n 0, 1) := by decide +kernel
theorem dd_MO_writeAll_6 : decode cd_MO_writeAll 6 = .ok (.iconst 0, 1) := by decide +kernel
theorem dd_MO_writeAll_7 : decode cd_MO_writeAll 7 = .ok (.putfield 102, 3) := by decide +kernel
theorem dd_MO_writeAll_10 : decode cd_MO_writeAll 10 = .ok (.iconst 0, 1) := by decide +kernel
theorem dd_MO_writeAll_11 : decode cd_MO_writeAll 11 = .ok (.istore_n 1, 1) := by decide +kernel
theorem dd_MO_writeAll_12 : decode cd_MO_writeAll 12 = .ok (.iconst 0, 1) := by decide +kernel
theorem dd_MO_writeAll_13 : decode cd_MO_writeAll 13 = .ok (.istore_n 2, 1) := by decide +kernel
theorem dd_MO_writeAll_14 : decode cd_MO_writeAll 14 = .ok (.iload_n 2, 1) := by decide +kernel
theorem dd_MO_writeAll_15 : decode cd_MO_writeAll 15 = .ok (.aload_n 0, 1) := by decide +kernel
theorem dd_MO_writeAll_16 : decode cd_MO_writeAll 16 = .ok (.getfield 72, 3) := by decide +kernel
theorem dd_MO_writeAll_19 : decode cd_MO_writeAll 19 = .ok (.if_icmp .ge 217, 3) := by decide +kernel
theorem dd_MO_writeAll_236 : decode cd_MO_writeAll 236 = .ok (.return_, 1) := by decide +kernel
theorem dd_MO_codewords_0 : decode cd_MO_codewords 0 = .ok (.aload_n 0, 1) := by decide +kernel
theorem dd_MO_codewords_1 : decode cd_MO_codewords 1 = .ok (.iconst 0, 1) := by decide +kernel
theorem dd_MO_codewords_2 : decode cd_MO_codewords 2 = .ok (.putfield 68, 3) := by decide +kernel
theorem dd_MO_codewords_5 : decode cd_MO_codewords 5 = .ok (.aload_n 0, 1) := by decide +kernel
theorem dd_MO_codewords_6 : decode cd_MO_codewords 6 = .ok (.invokevirtual 131, 3) := by decide +kernel
theorem dd_MO_codewords_9 : decode cd_MO_codewords 9 = .ok (.aload_n 0, 1) := by decide +kernel
theorem dd_MO_codewords_10 : decode cd_MO_codewords 10 = .ok (.getfield 89, 3) := by decide +kernel
theorem dd_MO_codewords_13 : decode cd_MO_codewords 13 = .ok (.ireturn, 1) := by decide +kernel
theorem dd_MO_codeword_0 : decode cd_MO_codeword 0 = .ok (.aload_n 0, 1) := by decide +kernel
theorem dd_MO_codeword_1 : decode cd_MO_codeword 1 = .ok (.invokevirtual 131, 3) := by decide +kernel
theorem dd_MO_codeword_4 : decode cd_MO_codeword 4 = .ok (.aload_n 0, 1) := by decide +kernel
theorem dd_MO_codeword_5 : decode cd_MO_codeword 5 = .ok (.iload_n 1, 1) := by decide +kernel
theorem dd_MO_codeword_6 : decode cd_MO_codeword 6 = .ok (.ifCond .lt 15, 3) := by decide +kernel
theorem dd_MO_codeword_9 : decode cd_MO_codeword 9 = .ok (.iload_n 1, 1) := by decide +kernel
theorem dd_MO_codeword_10 : decode cd_MO_codeword 10 = .ok (.aload_n 0, 1) := by decide +kernel
theorem dd_MO_codeword_11 : decode cd_MO_codeword 11 = .ok (.getfield 89, 3) := by decide +kernel
theorem dd_MO_codeword_14 : decode cd_MO_codeword 14 = .ok (.if_icmp .ge 7, 3) := by decide +kernel
theorem dd_MO_codeword_21 : decode cd_MO_codeword 21 = .ok (.iconst 1, 1) := by decide +kernel
theorem dd_MO_codeword_22 : decode cd_MO_codeword 22 = .ok (.putfield 68, 3) := by decide +kernel
theorem dd_MO_codeword_25 : decode cd_MO_codeword 25 = .ok (.aload_n 0, 1) := by decide +kernel
theorem dd_MO_codeword_26 : decode cd_MO_codeword 26 = .ok (.getfield 68, 3) := by decide +kernel
theorem dd_MO_codeword_29 : decode cd_MO_codeword 29 = .ok (.ifCond .le 7, 3) := by decide +kernel
theorem dd_MO_codeword_32 : decode cd_MO_codeword 32 = .ok (.iconst 0, 1) := by decide +kernel
theorem dd_MO_codeword_33 : decode cd_MO_codeword 33 = .ok (.goto 9, 3) := by decide +kernel
theorem dd_MO_codeword_42 : decode cd_MO_codeword 42 = .ok (.ireturn, 1) := by decide +kernel
theorem dd_MO_feed_0 : decode cd_MO_feed 0 = .ok (.aload_n 0, 1) := by decide +kernel
theorem dd_MO_feed_1 : decode cd_MO_feed 1 = .ok (.aload_n 0, 1) := by decide +kernel
theorem dd_MO_feed_2 : decode cd_MO_feed 2 = .ok (.getfield 72, 3) := by decide +kernel
theorem dd_MO_feed_5 : decode cd_MO_feed 5 = .ok (.bipush 20, 2) := by decide +kernel
theorem dd_MO_feed_7 : decode cd_MO_feed 7 = .ok (.iadd, 1) := by decide +kernel
theorem dd_MO_feed_8 : decode cd_MO_feed 8 = .ok (.sipush 1200, 3) := by decide +kernel
theorem dd_MO_feed_11 : decode cd_MO_feed 11 = .ok (.if_icmp .le 7, 3) := by decide +kernel
theorem dd_MO_feed_18 : decode cd_MO_feed 18 = .ok (.iconst 0, 1) := by decide +kernel
theorem dd_MO_feed_19 : decode cd_MO_feed 19 = .ok (.putfield 68, 3) := by decide +kernel
theorem dd_MO_feed_22 : decode cd_MO_feed 22 = .ok (.aload_n 0, 1) := by decide +kernel
theorem dd_MO_feed_23 : decode cd_MO_feed 23 = .ok (.getfield 68, 3) := by decide +kernel
theorem dd_MO_feed_26 : decode cd_MO_feed 26 = .ok (.ifCond .le 5, 3) := by decide +kernel
theorem dd_MO_feed_31 : decode cd_MO_feed 31 = .ok (.iconst 0, 1) := by decide +kernel
theorem dd_MO_feed_32 : decode cd_MO_feed 32 = .ok (.istore 6, 2) := by decide +kernel
theorem dd_MO_feed_34 : decode cd_MO_feed 34 = .ok (.iload 6, 2) := by decide +kernel
theorem dd_MO_feed_36 : decode cd_MO_feed 36 = .ok (.bipush 20, 2) := by decide +kernel
theorem dd_MO_feed_38 : decode cd_MO_feed 38 = .ok (.if_icmp .ge 86, 3) := by decide +kernel
theorem dd_MO_feed_41 : decode cd_MO_feed 41 = .ok (.iload 6, 2) := by decide +kernel
theorem dd_MO_feed_43 : decode cd_MO_feed 43 = .ok (.iconst 4, 1) := by decide +kernel
theorem dd_MO_feed_44 : decode cd_MO_feed 44 = .ok (.if_icmp .ge 7, 3) := by decide +kernel
theorem dd_MO_feed_47 : decode cd_MO_feed 47 = .ok (.iload_n 1, 1) := by decide +kernel
theorem dd_MO_feed_48 : decode cd_MO_feed 48 = .ok (.goto 39, 3) := by decide +kernel
theorem dd_MO_feed_51 : decode cd_MO_feed 51 = .ok (.iload 6, 2) := by decide +kernel
theorem dd_MO_feed_53 : decode cd_MO_feed 53 = .ok (.bipush 8, 2) := by decide +kernel
theorem dd_MO_feed_55 : decode cd_MO_feed 55 = .ok (.if_icmp .ge 7, 3) := by decide +kernel
theorem dd_MO_feed_58 : decode cd_MO_feed 58 = .ok (.iload_n 2, 1) := by decide +kernel
theorem dd_MO_feed_59 : decode cd_MO_feed 59 = .ok (.goto 28, 3) := by decide +kernel
theorem dd_MO_feed_62 : decode cd_MO_feed 62 = .ok (.iload 6, 2) := by decide +kernel
theorem dd_MO_feed_64 : decode cd_MO_feed 64 = .ok (.bipush 12, 2) := by decide +kernel
theorem dd_MO_feed_66 : decode cd_MO_feed 66 = .ok (.if_icmp .ge 7, 3) := by decide +kernel
theorem dd_MO_feed_69 : decode cd_MO_feed 69 = .ok (.iload_n 3, 1) := by decide +kernel
theorem dd_MO_feed_70 : decode cd_MO_feed 70 = .ok (.goto 17, 3) := by decide +kernel
theorem dd_MO_feed_73 : decode cd_MO_feed 73 = .ok (.iload 6, 2) := by decide +kernel
theorem dd_MO_feed_75 : decode cd_MO_feed 75 = .ok (.bipush 16, 2) := by decide +kernel
theorem dd_MO_feed_77 : decode cd_MO_feed 77 = .ok (.if_icmp .ge 8, 3) := by decide +kernel
theorem dd_MO_feed_80 : decode cd_MO_feed 80 = .ok (.iload 4, 2) := by decide +kernel
theorem dd_MO_feed_82 : decode cd_MO_feed 82 = .ok (.goto 5, 3) := by decide +kernel
theorem dd_MO_feed_85 : decode cd_MO_feed 85 = .ok (.iload 5, 2) := by decide +kernel
theorem dd_MO_feed_87 : decode cd_MO_feed 87 = .ok (.istore 7, 2) := by decide +kernel
theorem dd_MO_feed_89 : decode cd_MO_feed 89 = .ok (.aload_n 0, 1) := by decide +kernel
theorem dd_MO_feed_90 : decode cd_MO_feed 90 = .ok (.getfield 7, 3) := by decide +kernel
theorem dd_MO_feed_93 : decode cd_MO_feed 93 = .ok (.aload_n 0, 1) := by decide +kernel
theorem dd_MO_feed_94 : decode cd_MO_feed 94 = .ok (.getfield 72, 3) := by decide +kernel
theorem dd_MO_feed_97 : decode cd_MO_feed 97 = .ok (.iload 6, 2) := by decide +kernel
theorem dd_MO_feed_99 : decode cd_MO_feed 99 = .ok (.iadd, 1) := by decide +kernel
theorem dd_MO_feed_100 : decode cd_MO_feed 100 = .ok (.iload 7, 2) := by decide +kernel
theorem dd_MO_feed_102 : decode cd_MO_feed 102 = .ok (.bipush 24, 2) := by decide +kernel
theorem dd_MO_feed_104 : decode cd_MO_feed 104 = .ok (.bipush 8, 2) := by decide +kernel
theorem dd_MO_feed_106 : decode cd_MO_feed 106 = .ok (.iload 6, 2) := by decide +kernel
theorem dd_MO_feed_108 : decode cd_MO_feed 108 = .ok (.iconst 4, 1) := by decide +kernel
theorem dd_MO_feed_109 : decode cd_MO_feed 109 = .ok (.irem, 1) := by decide +kernel
theorem dd_MO_feed_110 : decode cd_MO_feed 110 = .ok (.imul, 1) := by decide +kernel
theorem dd_MO_feed_111 : decode cd_MO_feed 111 = .ok (.isub, 1) := by decide +kernel
theorem dd_MO_feed_112 : decode cd_MO_feed 112 = .ok (.ishr, 1) := by decide +kernel
theorem dd_MO_feed_113 : decode cd_MO_feed 113 = .ok (.sipush 255, 3) := by decide +kernel
theorem dd_MO_feed_116 : decode cd_MO_feed 116 = .ok (.iand, 1) := by decide +kernel
theorem dd_MO_feed_117 : decode cd_MO_feed 117 = .ok (.iastore, 1) := by decide +kernel
theorem dd_MO_feed_118 : decode cd_MO_feed 118 = .ok (.iinc 6 1, 3) := by decide +kernel
theorem dd_MO_feed_121 : decode cd_MO_feed 121 = .ok (.goto (-87), 3) := by decide +kernel
theorem dd_MO_feed_124 : decode cd_MO_feed 124 = .ok (.aload_n 0, 1) := by decide +kernel
theorem dd_MO_feed_125 : decode cd_MO_feed 125 = .ok (.aload_n 0, 1) := by decide +kernel
theorem dd_MO_feed_126 : decode cd_MO_feed 126 = .ok (.getfield 72, 3) := by decide +kernel
theorem dd_MO_feed_129 : decode cd_MO_feed 129 = .ok (.bipush 20, 2) := by decide +kernel
theorem dd_MO_feed_131 : decode cd_MO_feed 131 = .ok (.iadd, 1) := by decide +kernel
theorem dd_MO_feed_132 : decode cd_MO_feed 132 = .ok (.putfield 72, 3) := by decide +kernel
theorem dd_MO_feed_135 : decode cd_MO_feed 135 = .ok (.aload_n 0, 1) := by decide +kernel
theorem dd_MO_feed_136 : decode cd_MO_feed 136 = .ok (.getfield 72, 3) := by decide +kernel
theorem dd_MO_feed_139 : decode cd_MO_feed 139 = .ok (.ireturn, 1) := by decide +kernel
theorem dd_MO_end_0 : decode cd_MO_end 0 = .ok (.aload_n 0, 1) := by decide +kernel
theorem dd_MO_end_1 : decode cd_MO_end 1 = .ok (.iload_n 1, 1) := by decide +kernel
theorem dd_MO_end_2 : decode cd_MO_end 2 = .ok (.ifCond .lt 15, 3) := by decide +kernel
theorem dd_MO_end_5 : decode cd_MO_end 5 = .ok (.iload_n 1, 1) := by decide +kernel
theorem dd_MO_end_6 : decode cd_MO_end 6 = .ok (.aload_n 0, 1) := by decide +kernel
theorem dd_MO_end_7 : decode cd_MO_end 7 = .ok (.getfield 72, 3) := by decide +kernel
theorem dd_MO_end_10 : decode cd_MO_end 10 = .ok (.if_icmp .gt 7, 3) := by decide +kernel
theorem dd_MO_end_13 : decode cd_MO_end 13 = .ok (.iconst 0, 1) := by decide +kernel
theorem dd_MO_end_14 : decode cd_MO_end 14 = .ok (.goto 4, 3) := by decide +kernel
theorem dd_MO_end_17 : decode cd_MO_end 17 = .ok (.iconst 1, 1) := by decide +kernel
theorem dd_MO_end_18 : decode cd_MO_end 18 = .ok (.putfield 68, 3) := by decide +kernel
theorem dd_MO_end_21 : decode cd_MO_end 21 = .ok (.aload_n 0, 1) := by decide +kernel
theorem dd_MO_end_22 : decode cd_MO_end 22 = .ok (.aload_n 0, 1) := by decide +kernel
theorem dd_MO_end_23 : decode cd_MO_end 23 = .ok (.getfield 68, 3) := by decide +kernel
theorem dd_MO_end_26 : decode cd_MO_end 26 = .ok (.ifCond .le 10, 3) := by decide +kernel
theorem dd_MO_end_29 : decode cd_MO_end 29 = .ok (.aload_n 0, 1) := by decide +kernel
theorem dd_MO_end_30 : decode cd_MO_end 30 = .ok (.getfield 72, 3) := by decide +kernel
theorem dd_MO_end_33 : decode cd_MO_end 33 = .ok (.goto 4, 3) := by decide +kernel
theorem dd_MO_end_36 : decode cd_MO_end 36 = .ok (.iload_n 1, 1) := by decide +kernel
theorem dd_MO_end_37 : decode cd_MO_end 37 = .ok (.putfield 72, 3) := by decide +kernel
theorem dd_MO_end_40 : decode cd_MO_end 40 = .ok (.return_, 1) := by decide +kernel
theorem dd_MO_byteAt_0 : decode cd_MO_byteAt 0 = .ok (.aload_n 0, 1) := by decide +kernel
theorem dd_MO_byteAt_1 : decode cd_MO_byteAt 1 = .ok (.iload_n 1, 1) := by decide +kernel
theorem dd_MO_byteAt_2 : decode cd_MO_byteAt 2 = .ok (.ifCond .lt 15, 3) := by decide +kernel
theorem dd_MO_byteAt_5 : decode cd_MO_byteAt 5 = .ok (.iload_n 1, 1) := by decide +kernel
theorem dd_MO_byteAt_6 : decode cd_MO_byteAt 6 = .ok (.aload_n 0, 1) := by decide +kernel
theorem dd_MO_byteAt_7 : decode cd_MO_byteAt 7 = .ok (.getfield 72, 3) := by decide +kernel
theorem dd_MO_byteAt_10 : decode cd_MO_byteAt 10 = .ok (.if_icmp .ge 7, 3) := by decide +kernel
theorem dd_MO_byteAt_17 : decode cd_MO_byteAt 17 = .ok (.iconst 1, 1) := by decide +kernel
theorem dd_MO_byteAt_18 : decode cd_MO_byteAt 18 = .ok (.putfield 68, 3) := by decide +kernel
theorem dd_MO_byteAt_21 : decode cd_MO_byteAt 21 = .ok (.aload_n 0, 1) := by decide +kernel
theorem dd_MO_byteAt_22 : decode cd_MO_byteAt 22 = .ok (.getfield 68, 3) := by decide +kernel
theorem dd_MO_byteAt_25 : decode cd_MO_byteAt 25 = .ok (.ifCond .le 7, 3) := by decide +kernel
theorem dd_MO_byteAt_28 : decode cd_MO_byteAt 28 = .ok (.iconst 0, 1) := by decide +kernel
theorem dd_MO_byteAt_29 : decode cd_MO_byteAt 29 = .ok (.goto 9, 3) := by decide +kernel
theorem dd_MO_byteAt_38 : decode cd_MO_byteAt 38 = .ok (.ireturn, 1) := by decide +kernel
theorem dd_MO_solve_0 : decode cd_MO_solve 0 = .ok (.aload_n 0, 1) := by decide +kernel
theorem dd_MO_solve_1 : decode cd_MO_solve 1 = .ok (.aload_n 0, 1) := by decide +kernel
theorem dd_MO_solve_2 : decode cd_MO_solve 2 = .ok (.getfield 134, 3) := by decide +kernel
theorem dd_MO_solve_5 : decode cd_MO_solve 5 = .ok (.ifCond .ne 7, 3) := by decide +kernel
theorem dd_MO_solve_8 : decode cd_MO_solve 8 = .ok (.iconst 1, 1) := by decide +kernel
theorem dd_MO_solve_9 : decode cd_MO_solve 9 = .ok (.goto 4, 3) := by decide +kernel
theorem dd_MO_solve_13 : decode cd_MO_solve 13 = .ok (.putfield 68, 3) := by decide +kernel
theorem dd_MO_solve_16 : decode cd_MO_solve 16 = .ok (.aload_n 0, 1) := by decide +kernel
theorem dd_MO_solve_17 : decode cd_MO_solve 17 = .ok (.getfield 68, 3) := by decide +kernel
theorem dd_MO_solve_20 : decode cd_MO_solve 20 = .ok (.ifCond .le 5, 3) := by decide +kernel
theorem dd_MO_solve_23 : decode cd_MO_solve 23 = .ok (.iconst 0, 1) := by decide +kernel
theorem dd_MO_solve_24 : decode cd_MO_solve 24 = .ok (.ireturn, 1) := by decide +kernel
theorem dd_MO_place_0 : decode cd_MO_place 0 = .ok (.aload_n 0, 1) := by decide +kernel
theorem dd_MO_place_1 : decode cd_MO_place 1 = .ok (.aload_n 0, 1) := by decide +kernel
theorem dd_MO_place_2 : decode cd_MO_place 2 = .ok (.getfield 134, 3) := by decide +kernel
theorem dd_MO_place_5 : decode cd_MO_place 5 = .ok (.ifCond .ne 7, 3) := by decide +kernel
theorem dd_MO_place_8 : decode cd_MO_place 8 = .ok (.iconst 1, 1) := by decide +kernel
theorem dd_MO_place_9 : decode cd_MO_place 9 = .ok (.goto 17, 3) := by decide +kernel
theorem dd_MO_place_26 : decode cd_MO_place 26 = .ok (.putfield 68, 3) := by decide +kernel
theorem dd_MO_place_29 : decode cd_MO_place 29 = .ok (.aload_n 0, 1) := by decide +kernel
theorem dd_MO_place_30 : decode cd_MO_place 30 = .ok (.getfield 68, 3) := by decide +kernel
theorem dd_MO_place_33 : decode cd_MO_place 33 = .ok (.ifCond .le 7, 3) := by decide +kernel
theorem dd_MO_place_36 : decode cd_MO_place 36 = .ok (.iconst 0, 1) := by decide +kernel
theorem dd_MO_place_37 : decode cd_MO_place 37 = .ok (.goto 14, 3) := by decide +kernel
theorem dd_MO_place_51 : decode cd_MO_place 51 = .ok (.ireturn, 1) := by decide +kernel
theorem dd_MO_put_0 : decode cd_MO_put 0 = .ok (.aload_n 0, 1) := by decide +kernel
theorem dd_MO_put_1 : decode cd_MO_put 1 = .ok (.aload_n 0, 1) := by decide +kernel
theorem dd_MO_put_2 : decode cd_MO_put 2 = .ok (.getfield 134, 3) := by decide +kernel
theorem dd_MO_put_5 : decode cd_MO_put 5 = .ok (.ifCond .ne 7, 3) := by decide +kernel
theorem dd_MO_put_8 : decode cd_MO_put 8 = .ok (.iconst 1, 1) := by decide +kernel
theorem dd_MO_put_9 : decode cd_MO_put 9 = .ok (.goto 33, 3) := by decide +kernel
theorem dd_MO_put_42 : decode cd_MO_put 42 = .ok (.putfield 68, 3) := by decide +kernel
theorem dd_MO_put_45 : decode cd_MO_put 45 = .ok (.aload_n 0, 1) := by decide +kernel
theorem dd_MO_put_46 : decode cd_MO_put 46 = .ok (.getfield 68, 3) := by decide +kernel
theorem dd_MO_put_49 : decode cd_MO_put 49 = .ok (.ifCond .ne 15, 3) := by decide +kernel
theorem dd_MO_put_64 : decode cd_MO_put 64 = .ok (.return_, 1) := by decide +kernel
theorem dd_MO_solved_0 : decode cd_MO_solved 0 = .ok (.aload_n 0, 1) := by decide +kernel
theorem dd_MO_solved_1 : decode cd_MO_solved 1 = .ok (.iload_n 1, 1) := by decide +kernel
theorem dd_MO_solved_2 : decode cd_MO_solved 2 = .ok (.ifCond .lt 12, 3) := by decide +kernel
theorem dd_MO_solved_5 : decode cd_MO_solved 5 = .ok (.iload_n 1, 1) := by decide +kernel
theorem dd_MO_solved_6 : decode cd_MO_solved 6 = .ok (.iconst 3, 1) := by decide +kernel
theorem dd_MO_solved_7 : decode cd_MO_solved 7 = .ok (.if_icmp .gt 7, 3) := by decide +kernel
theorem dd_MO_solved_10 : decode cd_MO_solved 10 = .ok (.iconst 0, 1) := by decide +kernel
theorem dd_MO_solved_11 : decode cd_MO_solved 11 = .ok (.goto 4, 3) := by decide +kernel
theorem dd_MO_solved_14 : decode cd_MO_solved 14 = .ok (.iconst 1, 1) := by decide +kernel
theorem dd_MO_solved_15 : decode cd_MO_solved 15 = .ok (.putfield 68, 3) := by decide +kernel
theorem dd_MO_solved_18 : decode cd_MO_solved 18 = .ok (.aload_n 0, 1) := by decide +kernel
theorem dd_MO_solved_19 : decode cd_MO_solved 19 = .ok (.getfield 68, 3) := by decide +kernel
theorem dd_MO_solved_22 : decode cd_MO_solved 22 = .ok (.ifCond .le 5, 3) := by decide +kernel
theorem dd_MO_solved_25 : decode cd_MO_solved 25 = .ok (.iconst 0, 1) := by decide +kernel
theorem dd_MO_solved_26 : decode cd_MO_solved 26 = .ok (.ireturn, 1) := by decide +kernel
theorem dd_MO_solved_27 : decode cd_MO_solved 27 = .ok (.iload_n 1, 1) := by decide +kernel
theorem dd_MO_solved_28 : decode cd_MO_solved 28 = .ok (.ifCond .ne 10, 3) := by decide +kernel
theorem dd_MO_solved_31 : decode cd_MO_solved 31 = .ok (.aload_n 0, 1) := by decide +kernel
theorem dd_MO_solved_32 : decode cd_MO_solved 32 = .ok (.getfield 198, 3) := by decide +kernel
theorem dd_MO_solved_35 : decode cd_MO_solved 35 = .ok (.goto 31, 3) := by decide +kernel
theorem dd_MO_solved_38 : decode cd_MO_solved 38 = .ok (.iload_n 1, 1) := by decide +kernel
theorem dd_MO_solved_39 : decode cd_MO_solved 39 = .ok (.iconst 1, 1) := by decide +kernel
theorem dd_MO_solved_40 : decode cd_MO_solved 40 = .ok (.if_icmp .ne 10, 3) := by decide +kernel
theorem dd_MO_solved_43 : decode cd_MO_solved 43 = .ok (.aload_n 0, 1) := by decide +kernel
theorem dd_MO_solved_44 : decode cd_MO_solved 44 = .ok (.getfield 201, 3) := by decide +kernel
theorem dd_MO_solved_47 : decode cd_MO_solved 47 = .ok (.goto 19, 3) := by decide +kernel
theorem dd_MO_solved_50 : decode cd_MO_solved 50 = .ok (.iload_n 1, 1) := by decide +kernel
theorem dd_MO_solved_51 : decode cd_MO_solved 51 = .ok (.iconst 2, 1) := by decide +kernel
theorem dd_MO_solved_52 : decode cd_MO_solved 52 = .ok (.if_icmp .ne 10, 3) := by decide +kernel
theorem dd_MO_solved_55 : decode cd_MO_solved 55 = .ok (.aload_n 0, 1) := by decide +kernel
theorem dd_MO_solved_56 : decode cd_MO_solved 56 = .ok (.getfield 192, 3) := by decide +kernel
theorem dd_MO_solved_59 : decode cd_MO_solved 59 = .ok (.goto 7, 3) := by decide +kernel
theorem dd_MO_solved_62 : decode cd_MO_solved 62 = .ok (.aload_n 0, 1) := by decide +kernel
theorem dd_MO_solved_63 : decode cd_MO_solved 63 = .ok (.getfield 228, 3) := by decide +kernel
theorem dd_MO_solved_66 : decode cd_MO_solved 66 = .ok (.ireturn, 1) := by decide +kernel
theorem dd_MO_count_0 : decode cd_MO_count 0 = .ok (.aload_n 0, 1) := by decide +kernel
theorem dd_MO_count_1 : decode cd_MO_count 1 = .ok (.iload_n 1, 1) := by decide +kernel
theorem dd_MO_count_2 : decode cd_MO_count 2 = .ok (.ifCond .lt 12, 3) := by decide +kernel
theorem dd_MO_count_5 : decode cd_MO_count 5 = .ok (.iload_n 1, 1) := by decide +kernel
theorem dd_MO_count_6 : decode cd_MO_count 6 = .ok (.iconst 2, 1) := by decide +kernel
theorem dd_MO_count_7 : decode cd_MO_count 7 = .ok (.if_icmp .gt 7, 3) := by decide +kernel
theorem dd_MO_count_10 : decode cd_MO_count 10 = .ok (.iconst 0, 1) := by decide +kernel
theorem dd_MO_count_11 : decode cd_MO_count 11 = .ok (.goto 4, 3) := by decide +kernel
theorem dd_MO_count_14 : decode cd_MO_count 14 = .ok (.iconst 1, 1) := by decide +kernel
theorem dd_MO_count_15 : decode cd_MO_count 15 = .ok (.putfield 68, 3) := by decide +kernel
theorem dd_MO_count_18 : decode cd_MO_count 18 = .ok (.aload_n 0, 1) := by decide +kernel
theorem dd_MO_count_19 : decode cd_MO_count 19 = .ok (.getfield 68, 3) := by decide +kernel
theorem dd_MO_count_22 : decode cd_MO_count 22 = .ok (.ifCond .le 7, 3) := by decide +kernel
theorem dd_MO_count_25 : decode cd_MO_count 25 = .ok (.iconst 0, 1) := by decide +kernel
theorem dd_MO_count_26 : decode cd_MO_count 26 = .ok (.goto 30, 3) := by decide +kernel
theorem dd_MO_count_29 : decode cd_MO_count 29 = .ok (.iload_n 1, 1) := by decide +kernel
theorem dd_MO_count_30 : decode cd_MO_count 30 = .ok (.ifCond .ne 10, 3) := by decide +kernel
theorem dd_MO_count_33 : decode cd_MO_count 33 = .ok (.aload_n 0, 1) := by decide +kernel
theorem dd_MO_count_34 : decode cd_MO_count 34 = .ok (.getfield 72, 3) := by decide +kernel
theorem dd_MO_count_37 : decode cd_MO_count 37 = .ok (.goto 19, 3) := by decide +kernel
theorem dd_MO_count_40 : decode cd_MO_count 40 = .ok (.iload_n 1, 1) := by decide +kernel
theorem dd_MO_count_41 : decode cd_MO_count 41 = .ok (.iconst 1, 1) := by decide +kernel
theorem dd_MO_count_42 : decode cd_MO_count 42 = .ok (.if_icmp .ne 10, 3) := by decide +kernel
theorem dd_MO_count_45 : decode cd_MO_count 45 = .ok (.aload_n 0, 1) := by decide +kernel
theorem dd_MO_count_46 : decode cd_MO_count 46 = .ok (.getfield 134, 3) := by decide +kernel
theorem dd_MO_count_49 : decode cd_MO_count 49 = .ok (.goto 7, 3) := by decide +kernel
theorem dd_MO_count_52 : decode cd_MO_count 52 = .ok (.aload_n 0, 1) := by decide +kernel
theorem dd_MO_count_53 : decode cd_MO_count 53 = .ok (.getfield 137, 3) := by decide +kernel
theorem dd_MO_count_56 : decode cd_MO_count 56 = .ok (.ireturn, 1) := by decide +kernel
theorem dd_MO_make_0 : decode cd_MO_make 0 = .ok (.aload_n 0, 1) := by decide +kernel
theorem dd_MO_make_1 : decode cd_MO_make 1 = .ok (.iload_n 1, 1) := by decide +kernel
theorem dd_MO_make_2 : decode cd_MO_make 2 = .ok (.ifCond .lt 24, 3) := by decide +kernel
theorem dd_MO_make_5 : decode cd_MO_make 5 = .ok (.iload_n 1, 1) := by decide +kernel
theorem dd_MO_make_6 : decode cd_MO_make 6 = .ok (.bipush 8, 2) := by decide +kernel
theorem dd_MO_make_8 : decode cd_MO_make 8 = .ok (.if_icmp .gt 18, 3) := by decide +kernel
theorem dd_MO_make_11 : decode cd_MO_make 11 = .ok (.iload_n 2, 1) := by decide +kernel
theorem dd_MO_make_12 : decode cd_MO_make 12 = .ok (.iconst 1, 1) := by decide +kernel
theorem dd_MO_make_13 : decode cd_MO_make 13 = .ok (.if_icmp .lt 13, 3) := by decide +kernel
theorem dd_MO_make_16 : decode cd_MO_make 16 = .ok (.iload_n 2, 1) := by decide +kernel
theorem dd_MO_make_17 : decode cd_MO_make 17 = .ok (.bipush 30, 2) := by decide +kernel
theorem dd_MO_make_19 : decode cd_MO_make 19 = .ok (.if_icmp .gt 7, 3) := by decide +kernel
theorem dd_MO_make_22 : decode cd_MO_make 22 = .ok (.iconst 0, 1) := by decide +kernel
theorem dd_MO_make_23 : decode cd_MO_make 23 = .ok (.goto 4, 3) := by decide +kernel
theorem dd_MO_make_26 : decode cd_MO_make 26 = .ok (.iconst 1, 1) := by decide +kernel
theorem dd_MO_make_27 : decode cd_MO_make 27 = .ok (.putfield 68, 3) := by decide +kernel
theorem dd_MO_make_30 : decode cd_MO_make 30 = .ok (.aload_n 0, 1) := by decide +kernel
theorem dd_MO_make_31 : decode cd_MO_make 31 = .ok (.getfield 68, 3) := by decide +kernel
theorem dd_MO_make_34 : decode cd_MO_make 34 = .ok (.ifCond .le 5, 3) := by decide +kernel
theorem dd_MO_make_37 : decode cd_MO_make 37 = .ok (.iconst 0, 1) := by decide +kernel
theorem dd_MO_make_38 : decode cd_MO_make 38 = .ok (.ireturn, 1) := by decide +kernel
theorem dd_MO_make_39 : decode cd_MO_make 39 = .ok (.aload_n 0, 1) := by decide +kernel
theorem dd_MO_make_40 : decode cd_MO_make 40 = .ok (.invokevirtual 131, 3) := by decide +kernel
theorem dd_MO_make_43 : decode cd_MO_make 43 = .ok (.iconst 2, 1) := by decide +kernel
theorem dd_MO_make_44 : decode cd_MO_make 44 = .ok (.iload_n 1, 1) := by decide +kernel
theorem dd_MO_make_45 : decode cd_MO_make 45 = .ok (.ishl, 1) := by decide +kernel
theorem dd_MO_make_46 : decode cd_MO_make 46 = .ok (.istore_n 3, 1) := by decide +kernel
theorem dd_MO_make_47 : decode cd_MO_make 47 = .ok (.iconst 1, 1) := by decide +kernel
theorem dd_MO_make_48 : decode cd_MO_make 48 = .ok (.aload_n 0, 1) := by decide +kernel
theorem dd_MO_make_49 : decode cd_MO_make 49 = .ok (.getfield 89, 3) := by decide +kernel
theorem dd_MO_make_52 : decode cd_MO_make 52 = .ok (.iadd, 1) := by decide +kernel
theorem dd_MO_make_53 : decode cd_MO_make 53 = .ok (.iload_n 3, 1) := by decide +kernel
theorem dd_MO_make_54 : decode cd_MO_make 54 = .ok (.iadd, 1) := by decide +kernel
theorem dd_MO_make_55 : decode cd_MO_make 55 = .ok (.iload_n 2, 1) := by decide +kernel
theorem dd_MO_make_56 : decode cd_MO_make 56 = .ok (.iadd, 1) := by decide +kernel
theorem dd_MO_make_57 : decode cd_MO_make 57 = .ok (.iconst 1, 1) := by decide +kernel
theorem dd_MO_make_58 : decode cd_MO_make 58 = .ok (.isub, 1) := by decide +kernel
theorem dd_MO_make_59 : decode cd_MO_make 59 = .ok (.iload_n 2, 1) := by decide +kernel
theorem dd_MO_make_60 : decode cd_MO_make 60 = .ok (.idiv, 1) := by decide +kernel
theorem dd_MO_make_61 : decode cd_MO_make 61 = .ok (.istore 4, 2) := by decide +kernel
theorem dd_MO_make_63 : decode cd_MO_make 63 = .ok (.iload 4, 2) := by decide +kernel
theorem dd_MO_make_65 : decode cd_MO_make 65 = .ok (.iconst 3, 1) := by decide +kernel
theorem dd_MO_make_66 : decode cd_MO_make 66 = .ok (.if_icmp .ge 7, 3) := by decide +kernel
theorem dd_MO_make_69 : decode cd_MO_make 69 = .ok (.iconst 3, 1) := by decide +kernel
theorem dd_MO_make_70 : decode cd_MO_make 70 = .ok (.goto 5, 3) := by decide +kernel
theorem dd_MO_make_73 : decode cd_MO_make 73 = .ok (.iload 4, 2) := by decide +kernel
theorem dd_MO_make_75 : decode cd_MO_make 75 = .ok (.istore 4, 2) := by decide +kernel
theorem dd_MO_make_77 : decode cd_MO_make 77 = .ok (.aload_n 0, 1) := by decide +kernel
theorem dd_MO_make_78 : decode cd_MO_make 78 = .ok (.iload 4, 2) := by decide +kernel
theorem dd_MO_make_80 : decode cd_MO_make 80 = .ok (.bipush 90, 2) := by decide +kernel
theorem dd_MO_make_82 : decode cd_MO_make 82 = .ok (.if_icmp .gt 13, 3) := by decide +kernel
theorem dd_MO_make_85 : decode cd_MO_make 85 = .ok (.iload 4, 2) := by decide +kernel
theorem dd_MO_make_87 : decode cd_MO_make 87 = .ok (.iload_n 2, 1) := by decide +kernel
theorem dd_MO_make_88 : decode cd_MO_make 88 = .ok (.imul, 1) := by decide +kernel
theorem dd_MO_make_89 : decode cd_MO_make 89 = .ok (.sipush 928, 3) := by decide +kernel
theorem dd_MO_make_92 : decode cd_MO_make 92 = .ok (.if_icmp .le 7, 3) := by decide +kernel
theorem dd_MO_make_95 : decode cd_MO_make 95 = .ok (.iconst 2, 1) := by decide +kernel
theorem dd_MO_make_96 : decode cd_MO_make 96 = .ok (.goto 4, 3) := by decide +kernel
theorem dd_MO_make_99 : decode cd_MO_make 99 = .ok (.iconst 0, 1) := by decide +kernel
theorem dd_MO_make_100 : decode cd_MO_make 100 = .ok (.putfield 68, 3) := by decide +kernel
theorem dd_MO_make_103 : decode cd_MO_make 103 = .ok (.aload_n 0, 1) := by decide +kernel
theorem dd_MO_make_104 : decode cd_MO_make 104 = .ok (.getfield 68, 3) := by decide +kernel
theorem dd_MO_make_107 : decode cd_MO_make 107 = .ok (.ifCond .le 5, 3) := by decide +kernel
theorem dd_MO_make_110 : decode cd_MO_make 110 = .ok (.iconst 0, 1) := by decide +kernel
theorem dd_MO_make_111 : decode cd_MO_make 111 = .ok (.ireturn, 1) := by decide +kernel
theorem dd_MO_make_112 : decode cd_MO_make 112 = .ok (.aload_n 0, 1) := by decide +kernel
theorem dd_MO_make_113 : decode cd_MO_make 113 = .ok (.iload 4, 2) := by decide +kernel
theorem dd_MO_make_115 : decode cd_MO_make 115 = .ok (.putfield 134, 3) := by decide +kernel
theorem dd_MO_make_118 : decode cd_MO_make 118 = .ok (.aload_n 0, 1) := by decide +kernel
theorem dd_MO_make_119 : decode cd_MO_make 119 = .ok (.iload_n 2, 1) := by decide +kernel
theorem dd_MO_make_120 : decode cd_MO_make 120 = .ok (.putfield 137, 3) := by decide +kernel
theorem dd_MO_make_123 : decode cd_MO_make 123 = .ok (.aload_n 0, 1) := by decide +kernel
theorem dd_MO_make_124 : decode cd_MO_make 124 = .ok (.getfield 134, 3) := by decide +kernel
theorem dd_MO_make_127 : decode cd_MO_make 127 = .ok (.aload_n 0, 1) := by decide +kernel
theorem dd_MO_make_128 : decode cd_MO_make 128 = .ok (.getfield 137, 3) := by decide +kernel
theorem dd_MO_make_131 : decode cd_MO_make 131 = .ok (.imul, 1) := by decide +kernel
theorem dd_MO_make_132 : decode cd_MO_make 132 = .ok (.istore 5, 2) := by decide +kernel
theorem dd_MO_make_134 : decode cd_MO_make 134 = .ok (.iconst 0, 1) := by decide +kernel
theorem dd_MO_make_135 : decode cd_MO_make 135 = .ok (.istore 6, 2) := by decide +kernel
theorem dd_MO_make_137 : decode cd_MO_make 137 = .ok (.iload 6, 2) := by decide +kernel
theorem dd_MO_make_139 : decode cd_MO_make 139 = .ok (.iload 5, 2) := by decide +kernel
theorem dd_MO_make_141 : decode cd_MO_make 141 = .ok (.iload_n 3, 1) := by decide +kernel
theorem dd_MO_make_142 : decode cd_MO_make 142 = .ok (.isub, 1) := by decide +kernel
theorem dd_MO_make_143 : decode cd_MO_make 143 = .ok (.if_icmp .ge 52, 3) := by decide +kernel
theorem dd_MO_make_146 : decode cd_MO_make 146 = .ok (.aload_n 0, 1) := by decide +kernel
theorem dd_MO_make_147 : decode cd_MO_make 147 = .ok (.getfield 25, 3) := by decide +kernel
theorem dd_MO_make_150 : decode cd_MO_make 150 = .ok (.iload 6, 2) := by decide +kernel
theorem dd_MO_make_152 : decode cd_MO_make 152 = .ok (.iload 6, 2) := by decide +kernel
theorem dd_MO_make_154 : decode cd_MO_make 154 = .ok (.ifCond .ne 10, 3) := by decide +kernel
theorem dd_MO_make_157 : decode cd_MO_make 157 = .ok (.iload 5, 2) := by decide +kernel
theorem dd_MO_make_159 : decode cd_MO_make 159 = .ok (.iload_n 3, 1) := by decide +kernel
theorem dd_MO_make_160 : decode cd_MO_make 160 = .ok (.isub, 1) := by decide +kernel
theorem dd_MO_make_161 : decode cd_MO_make 161 = .ok (.goto 27, 3) := by decide +kernel
theorem dd_MO_make_164 : decode cd_MO_make 164 = .ok (.iload 6, 2) := by decide +kernel
theorem dd_MO_make_166 : decode cd_MO_make 166 = .ok (.aload_n 0, 1) := by decide +kernel
theorem dd_MO_make_167 : decode cd_MO_make 167 = .ok (.getfield 89, 3) := by decide +kernel
theorem dd_MO_make_170 : decode cd_MO_make 170 = .ok (.if_icmp .gt 15, 3) := by decide +kernel
theorem dd_MO_make_185 : decode cd_MO_make 185 = .ok (.sipush 900, 3) := by decide +kernel
theorem dd_MO_make_188 : decode cd_MO_make 188 = .ok (.iastore, 1) := by decide +kernel
theorem dd_MO_make_189 : decode cd_MO_make 189 = .ok (.iinc 6 1, 3) := by decide +kernel
theorem dd_MO_make_192 : decode cd_MO_make 192 = .ok (.goto (-55), 3) := by decide +kernel
theorem dd_MO_make_195 : decode cd_MO_make 195 = .ok (.aload_n 0, 1) := by decide +kernel
theorem dd_MO_make_196 : decode cd_MO_make 196 = .ok (.iload 5, 2) := by decide +kernel
theorem dd_MO_make_198 : decode cd_MO_make 198 = .ok (.iload_n 3, 1) := by decide +kernel
theorem dd_MO_make_199 : decode cd_MO_make 199 = .ok (.invokevirtual 143, 3) := by decide +kernel
theorem dd_MO_make_202 : decode cd_MO_make 202 = .ok (.iconst 0, 1) := by decide +kernel
theorem dd_MO_make_203 : decode cd_MO_make 203 = .ok (.istore 6, 2) := by decide +kernel
theorem dd_MO_make_205 : decode cd_MO_make 205 = .ok (.iload 6, 2) := by decide +kernel
theorem dd_MO_make_207 : decode cd_MO_make 207 = .ok (.iload 5, 2) := by decide +kernel
theorem dd_MO_make_209 : decode cd_MO_make 209 = .ok (.if_icmp .ge 27, 3) := by decide +kernel
theorem dd_MO_make_212 : decode cd_MO_make 212 = .ok (.aload_n 0, 1) := by decide +kernel
theorem dd_MO_make_213 : decode cd_MO_make 213 = .ok (.getfield 22, 3) := by decide +kernel
theorem dd_MO_make_216 : decode cd_MO_make 216 = .ok (.aload_n 0, 1) := by decide +kernel
theorem dd_MO_make_217 : decode cd_MO_make 217 = .ok (.iload 6, 2) := by decide +kernel
theorem dd_MO_make_219 : decode cd_MO_make 219 = .ok (.invokevirtual 146, 3) := by decide +kernel
theorem dd_MO_make_222 : decode cd_MO_make 222 = .ok (.aload_n 0, 1) := by decide +kernel
theorem dd_MO_make_223 : decode cd_MO_make 223 = .ok (.getfield 25, 3) := by decide +kernel
theorem dd_MO_make_226 : decode cd_MO_make 226 = .ok (.iload 6, 2) := by decide +kernel
theorem dd_MO_make_228 : decode cd_MO_make 228 = .ok (.iaload, 1) := by decide +kernel
theorem dd_MO_make_229 : decode cd_MO_make 229 = .ok (.iastore, 1) := by decide +kernel
theorem dd_MO_make_230 : decode cd_MO_make 230 = .ok (.iinc 6 1, 3) := by decide +kernel
theorem dd_MO_make_233 : decode cd_MO_make 233 = .ok (.goto (-28), 3) := by decide +kernel
theorem dd_MO_make_236 : decode cd_MO_make 236 = .ok (.iconst 0, 1) := by decide +kernel
theorem dd_MO_make_237 : decode cd_MO_make 237 = .ok (.istore 6, 2) := by decide +kernel
theorem dd_MO_make_239 : decode cd_MO_make 239 = .ok (.iload 6, 2) := by decide +kernel
theorem dd_MO_make_241 : decode cd_MO_make 241 = .ok (.aload_n 0, 1) := by decide +kernel
theorem dd_MO_make_242 : decode cd_MO_make 242 = .ok (.getfield 134, 3) := by decide +kernel
theorem dd_MO_make_245 : decode cd_MO_make 245 = .ok (.if_icmp .ge 54, 3) := by decide +kernel
theorem dd_MO_make_248 : decode cd_MO_make 248 = .ok (.aload_n 0, 1) := by decide +kernel
theorem dd_MO_make_249 : decode cd_MO_make 249 = .ok (.getfield 22, 3) := by decide +kernel
theorem dd_MO_make_252 : decode cd_MO_make 252 = .ok (.aload_n 0, 1) := by decide +kernel
theorem dd_MO_make_253 : decode cd_MO_make 253 = .ok (.iload 6, 2) := by decide +kernel
theorem dd_MO_make_255 : decode cd_MO_make 255 = .ok (.iconst 0, 1) := by decide +kernel
theorem dd_MO_make_256 : decode cd_MO_make 256 = .ok (.invokevirtual 140, 3) := by decide +kernel
theorem dd_MO_make_259 : decode cd_MO_make 259 = .ok (.aload_n 0, 1) := by decide +kernel
theorem dd_MO_make_260 : decode cd_MO_make 260 = .ok (.iload 6, 2) := by decide +kernel
theorem dd_MO_make_262 : decode cd_MO_make 262 = .ok (.iconst 0, 1) := by decide +kernel
theorem dd_MO_make_263 : decode cd_MO_make 263 = .ok (.iload_n 1, 1) := by decide +kernel
theorem dd_MO_make_264 : decode cd_MO_make 264 = .ok (.invokevirtual 149, 3) := by decide +kernel
theorem dd_MO_make_267 : decode cd_MO_make 267 = .ok (.iastore, 1) := by decide +kernel
theorem dd_MO_make_268 : decode cd_MO_make 268 = .ok (.aload_n 0, 1) := by decide +kernel
theorem dd_MO_make_269 : decode cd_MO_make 269 = .ok (.getfield 22, 3) := by decide +kernel
theorem dd_MO_make_272 : decode cd_MO_make 272 = .ok (.aload_n 0, 1) := by decide +kernel
theorem dd_MO_make_273 : decode cd_MO_make 273 = .ok (.iload 6, 2) := by decide +kernel
theorem dd_MO_make_275 : decode cd_MO_make 275 = .ok (.aload_n 0, 1) := by decide +kernel
theorem dd_MO_make_276 : decode cd_MO_make 276 = .ok (.getfield 137, 3) := by decide +kernel
theorem dd_MO_make_279 : decode cd_MO_make 279 = .ok (.iconst 1, 1) := by decide +kernel
theorem dd_MO_make_280 : decode cd_MO_make 280 = .ok (.iadd, 1) := by decide +kernel
theorem dd_MO_make_281 : decode cd_MO_make 281 = .ok (.invokevirtual 140, 3) := by decide +kernel
theorem dd_MO_make_284 : decode cd_MO_make 284 = .ok (.aload_n 0, 1) := by decide +kernel
theorem dd_MO_make_285 : decode cd_MO_make 285 = .ok (.iload 6, 2) := by decide +kernel
theorem dd_MO_make_287 : decode cd_MO_make 287 = .ok (.iconst 1, 1) := by decide +kernel
theorem dd_MO_make_288 : decode cd_MO_make 288 = .ok (.iload_n 1, 1) := by decide +kernel
theorem dd_MO_make_289 : decode cd_MO_make 289 = .ok (.invokevirtual 149, 3) := by decide +kernel
theorem dd_MO_make_292 : decode cd_MO_make 292 = .ok (.iastore, 1) := by decide +kernel
theorem dd_MO_make_293 : decode cd_MO_make 293 = .ok (.iinc 6 1, 3) := by decide +kernel
theorem dd_MO_make_296 : decode cd_MO_make 296 = .ok (.goto (-57), 3) := by decide +kernel
theorem dd_MO_make_299 : decode cd_MO_make 299 = .ok (.aload_n 0, 1) := by decide +kernel
theorem dd_MO_make_300 : decode cd_MO_make 300 = .ok (.getfield 134, 3) := by decide +kernel
theorem dd_MO_make_303 : decode cd_MO_make 303 = .ok (.ireturn, 1) := by decide +kernel
theorem dd_MO_at_0 : decode cd_MO_at 0 = .ok (.iload_n 1, 1) := by decide +kernel
theorem dd_MO_at_1 : decode cd_MO_at 1 = .ok (.aload_n 0, 1) := by decide +kernel
theorem dd_MO_at_2 : decode cd_MO_at 2 = .ok (.getfield 137, 3) := by decide +kernel
theorem dd_MO_at_5 : decode cd_MO_at 5 = .ok (.iconst 2, 1) := by decide +kernel
theorem dd_MO_at_6 : decode cd_MO_at 6 = .ok (.iadd, 1) := by decide +kernel
theorem dd_MO_at_7 : decode cd_MO_at 7 = .ok (.imul, 1) := by decide +kernel
theorem dd_MO_at_8 : decode cd_MO_at 8 = .ok (.iload_n 2, 1) := by decide +kernel
theorem dd_MO_at_9 : decode cd_MO_at 9 = .ok (.iadd, 1) := by decide +kernel
theorem dd_MO_at_10 : decode cd_MO_at 10 = .ok (.ireturn, 1) := by decide +kernel
theorem dd_MO_placeOf_0 : decode cd_MO_placeOf 0 = .ok (.aload_n 0, 1) := by decide +kernel
theorem dd_MO_placeOf_1 : decode cd_MO_placeOf 1 = .ok (.iload_n 1, 1) := by decide +kernel
theorem dd_MO_placeOf_2 : decode cd_MO_placeOf 2 = .ok (.aload_n 0, 1) := by decide +kernel
theorem dd_MO_placeOf_3 : decode cd_MO_placeOf 3 = .ok (.getfield 137, 3) := by decide +kernel
theorem dd_MO_placeOf_6 : decode cd_MO_placeOf 6 = .ok (.idiv, 1) := by decide +kernel
theorem dd_MO_placeOf_7 : decode cd_MO_placeOf 7 = .ok (.iconst 1, 1) := by decide +kernel
theorem dd_MO_placeOf_8 : decode cd_MO_placeOf 8 = .ok (.iload_n 1, 1) := by decide +kernel
theorem dd_MO_placeOf_9 : decode cd_MO_placeOf 9 = .ok (.aload_n 0, 1) := by decide +kernel
theorem dd_MO_placeOf_10 : decode cd_MO_placeOf 10 = .ok (.getfield 137, 3) := by decide +kernel
theorem dd_MO_placeOf_13 : decode cd_MO_placeOf 13 = .ok (.irem, 1) := by decide +kernel
theorem dd_MO_placeOf_14 : decode cd_MO_placeOf 14 = .ok (.iadd, 1) := by decide +kernel
theorem dd_MO_placeOf_15 : decode cd_MO_placeOf 15 = .ok (.invokevirtual 140, 3) := by decide +kernel
theorem dd_MO_placeOf_18 : decode cd_MO_placeOf 18 = .ok (.ireturn, 1) := by decide +kernel
theorem dd_MO_indicator_0 : decode cd_MO_indicator 0 = .ok (.iload_n 2, 1) := by decide +kernel
theorem dd_MO_indicator_1 : decode cd_MO_indicator 1 = .ok (.ifCond .eq 11, 3) := by decide +kernel
theorem dd_MO_indicator_4 : decode cd_MO_indicator 4 = .ok (.iload_n 1, 1) := by decide +kernel
theorem dd_MO_indicator_5 : decode cd_MO_indicator 5 = .ok (.iconst 2, 1) := by decide +kernel
theorem dd_MO_indicator_6 : decode cd_MO_indicator 6 = .ok (.iadd, 1) := by decide +kernel
theorem dd_MO_indicator_7 : decode cd_MO_indicator 7 = .ok (.iconst 3, 1) := by decide +kernel
theorem dd_MO_indicator_8 : decode cd_MO_indicator 8 = .ok (.irem, 1) := by decide +kernel
theorem dd_MO_indicator_9 : decode cd_MO_indicator 9 = .ok (.goto 6, 3) := by decide +kernel
theorem dd_MO_indicator_12 : decode cd_MO_indicator 12 = .ok (.iload_n 1, 1) := by decide +kernel
theorem dd_MO_indicator_13 : decode cd_MO_indicator 13 = .ok (.iconst 3, 1) := by decide +kernel
theorem dd_MO_indicator_14 : decode cd_MO_indicator 14 = .ok (.irem, 1) := by decide +kernel
theorem dd_MO_indicator_15 : decode cd_MO_indicator 15 = .ok (.istore 4, 2) := by decide +kernel
theorem dd_MO_indicator_17 : decode cd_MO_indicator 17 = .ok (.iload 4, 2) := by decide +kernel
theorem dd_MO_indicator_19 : decode cd_MO_indicator 19 = .ok (.ifCond .ne 14, 3) := by decide +kernel
theorem dd_MO_indicator_22 : decode cd_MO_indicator 22 = .ok (.aload_n 0, 1) := by decide +kernel
theorem dd_MO_indicator_23 : decode cd_MO_indicator 23 = .ok (.getfield 134, 3) := by decide +kernel
theorem dd_MO_indicator_26 : decode cd_MO_indicator 26 = .ok (.iconst 1, 1) := by decide +kernel
theorem dd_MO_indicator_27 : decode cd_MO_indicator 27 = .ok (.isub, 1) := by decide +kernel
theorem dd_MO_indicator_28 : decode cd_MO_indicator 28 = .ok (.iconst 3, 1) := by decide +kernel
theorem dd_MO_indicator_29 : decode cd_MO_indicator 29 = .ok (.idiv, 1) := by decide +kernel
theorem dd_MO_indicator_30 : decode cd_MO_indicator 30 = .ok (.goto 30, 3) := by decide +kernel
theorem dd_MO_indicator_33 : decode cd_MO_indicator 33 = .ok (.iload 4, 2) := by decide +kernel
theorem dd_MO_indicator_35 : decode cd_MO_indicator 35 = .ok (.iconst 1, 1) := by decide +kernel
theorem dd_MO_indicator_36 : decode cd_MO_indicator 36 = .ok (.if_icmp .ne 18, 3) := by decide +kernel
theorem dd_MO_indicator_39 : decode cd_MO_indicator 39 = .ok (.iconst 3, 1) := by decide +kernel
theorem dd_MO_indicator_40 : decode cd_MO_indicator 40 = .ok (.iload_n 3, 1) := by decide +kernel
theorem dd_MO_indicator_41 : decode cd_MO_indicator 41 = .ok (.imul, 1) := by decide +kernel
theorem dd_MO_indicator_42 : decode cd_MO_indicator 42 = .ok (.aload_n 0, 1) := by decide +kernel
theorem dd_MO_indicator_43 : decode cd_MO_indicator 43 = .ok (.getfield 134, 3) := by decide +kernel
theorem dd_MO_indicator_46 : decode cd_MO_indicator 46 = .ok (.iconst 1, 1) := by decide +kernel
theorem dd_MO_indicator_47 : decode cd_MO_indicator 47 = .ok (.isub, 1) := by decide +kernel
theorem dd_MO_indicator_48 : decode cd_MO_indicator 48 = .ok (.iconst 3, 1) := by decide +kernel
theorem dd_MO_indicator_49 : decode cd_MO_indicator 49 = .ok (.irem, 1) := by decide +kernel
theorem dd_MO_indicator_50 : decode cd_MO_indicator 50 = .ok (.iadd, 1) := by decide +kernel
theorem dd_MO_indicator_51 : decode cd_MO_indicator 51 = .ok (.goto 9, 3) := by decide +kernel
theorem dd_MO_indicator_54 : decode cd_MO_indicator 54 = .ok (.aload_n 0, 1) := by decide +kernel
theorem dd_MO_indicator_55 : decode cd_MO_indicator 55 = .ok (.getfield 137, 3) := by decide +kernel
theorem dd_MO_indicator_58 : decode cd_MO_indicator 58 = .ok (.iconst 1, 1) := by decide +kernel
theorem dd_MO_indicator_59 : decode cd_MO_indicator 59 = .ok (.isub, 1) := by decide +kernel
theorem dd_MO_indicator_60 : decode cd_MO_indicator 60 = .ok (.istore 5, 2) := by decide +kernel
theorem dd_MO_indicator_62 : decode cd_MO_indicator 62 = .ok (.bipush 30, 2) := by decide +kernel
theorem dd_MO_indicator_64 : decode cd_MO_indicator 64 = .ok (.iload_n 1, 1) := by decide +kernel
theorem dd_MO_indicator_65 : decode cd_MO_indicator 65 = .ok (.iconst 3, 1) := by decide +kernel
theorem dd_MO_indicator_66 : decode cd_MO_indicator 66 = .ok (.idiv, 1) := by decide +kernel
theorem dd_MO_indicator_67 : decode cd_MO_indicator 67 = .ok (.imul, 1) := by decide +kernel
theorem dd_MO_indicator_68 : decode cd_MO_indicator 68 = .ok (.iload 5, 2) := by decide +kernel
theorem dd_MO_indicator_70 : decode cd_MO_indicator 70 = .ok (.iadd, 1) := by decide +kernel
theorem dd_MO_indicator_71 : decode cd_MO_indicator 71 = .ok (.ireturn, 1) := by decide +kernel
theorem dd_MO_makeChecks_0 : decode cd_MO_makeChecks 0 = .ok (.iconst 0, 1) := by decide +kernel
theorem dd_MO_makeChecks_1 : decode cd_MO_makeChecks 1 = .ok (.istore_n 3, 1) := by decide +kernel
theorem dd_MO_makeChecks_2 : decode cd_MO_makeChecks 2 = .ok (.iload_n 3, 1) := by decide +kernel
theorem dd_MO_makeChecks_3 : decode cd_MO_makeChecks 3 = .ok (.iload_n 2, 1) := by decide +kernel
theorem dd_MO_makeChecks_4 : decode cd_MO_makeChecks 4 = .ok (.if_icmp .gt 24, 3) := by decide +kernel
theorem dd_MO_makeChecks_7 : decode cd_MO_makeChecks 7 = .ok (.aload_n 0, 1) := by decide +kernel
theorem dd_MO_makeChecks_8 : decode cd_MO_makeChecks 8 = .ok (.getfield 41, 3) := by decide +kernel
theorem dd_MO_makeChecks_11 : decode cd_MO_makeChecks 11 = .ok (.iload_n 3, 1) := by decide +kernel
theorem dd_MO_makeChecks_12 : decode cd_MO_makeChecks 12 = .ok (.iload_n 3, 1) := by decide +kernel
theorem dd_MO_makeChecks_13 : decode cd_MO_makeChecks 13 = .ok (.ifCond .ne 7, 3) := by decide +kernel
theorem dd_MO_makeChecks_16 : decode cd_MO_makeChecks 16 = .ok (.iconst 1, 1) := by decide +kernel
theorem dd_MO_makeChecks_17 : decode cd_MO_makeChecks 17 = .ok (.goto 4, 3) := by decide +kernel
theorem dd_MO_makeChecks_20 : decode cd_MO_makeChecks 20 = .ok (.iconst 0, 1) := by decide +kernel
theorem dd_MO_makeChecks_21 : decode cd_MO_makeChecks 21 = .ok (.iastore, 1) := by decide +kernel
theorem dd_MO_makeChecks_22 : decode cd_MO_makeChecks 22 = .ok (.iinc 3 1, 3) := by decide +kernel
theorem dd_MO_makeChecks_25 : decode cd_MO_makeChecks 25 = .ok (.goto (-23), 3) := by decide +kernel
theorem dd_MO_makeChecks_28 : decode cd_MO_makeChecks 28 = .ok (.iconst 1, 1) := by decide +kernel
theorem dd_MO_makeChecks_29 : decode cd_MO_makeChecks 29 = .ok (.istore_n 3, 1) := by decide +kernel
theorem dd_MO_makeChecks_30 : decode cd_MO_makeChecks 30 = .ok (.iload_n 3, 1) := by decide +kernel
theorem dd_MO_makeChecks_31 : decode cd_MO_makeChecks 31 = .ok (.iload_n 2, 1) := by decide +kernel
theorem dd_MO_makeChecks_32 : decode cd_MO_makeChecks 32 = .ok (.if_icmp .gt 75, 3) := by decide +kernel
theorem dd_MO_makeChecks_35 : decode cd_MO_makeChecks 35 = .ok (.iload_n 3, 1) := by decide +kernel
theorem dd_MO_makeChecks_36 : decode cd_MO_makeChecks 36 = .ok (.istore 4, 2) := by decide +kernel
theorem dd_MO_makeChecks_38 : decode cd_MO_makeChecks 38 = .ok (.iload 4, 2) := by decide +kernel
theorem dd_MO_makeChecks_40 : decode cd_MO_makeChecks 40 = .ok (.ifCond .lt 61, 3) := by decide +kernel
theorem dd_MO_makeChecks_43 : decode cd_MO_makeChecks 43 = .ok (.iload 4, 2) := by decide +kernel
theorem dd_MO_makeChecks_45 : decode cd_MO_makeChecks 45 = .ok (.ifCond .le 15, 3) := by decide +kernel
theorem dd_MO_makeChecks_48 : decode cd_MO_makeChecks 48 = .ok (.aload_n 0, 1) := by decide +kernel
theorem dd_MO_makeChecks_49 : decode cd_MO_makeChecks 49 = .ok (.getfield 41, 3) := by decide +kernel
theorem dd_MO_makeChecks_52 : decode cd_MO_makeChecks 52 = .ok (.iload 4, 2) := by decide +kernel
theorem dd_MO_makeChecks_54 : decode cd_MO_makeChecks 54 = .ok (.iconst 1, 1) := by decide +kernel
theorem dd_MO_makeChecks_55 : decode cd_MO_makeChecks 55 = .ok (.isub, 1) := by decide +kernel
theorem dd_MO_makeChecks_56 : decode cd_MO_makeChecks 56 = .ok (.iaload, 1) := by decide +kernel
theorem dd_MO_makeChecks_57 : decode cd_MO_makeChecks 57 = .ok (.goto 4, 3) := by decide +kernel
theorem dd_MO_makeChecks_60 : decode cd_MO_makeChecks 60 = .ok (.iconst 0, 1) := by decide +kernel
theorem dd_MO_makeChecks_61 : decode cd_MO_makeChecks 61 = .ok (.istore 5, 2) := by decide +kernel
theorem dd_MO_makeChecks_63 : decode cd_MO_makeChecks 63 = .ok (.aload_n 0, 1) := by decide +kernel
theorem dd_MO_makeChecks_64 : decode cd_MO_makeChecks 64 = .ok (.getfield 41, 3) := by decide +kernel
theorem dd_MO_makeChecks_67 : decode cd_MO_makeChecks 67 = .ok (.iload 4, 2) := by decide +kernel
theorem dd_MO_makeChecks_69 : decode cd_MO_makeChecks 69 = .ok (.iload 5, 2) := by decide +kernel
theorem dd_MO_makeChecks_71 : decode cd_MO_makeChecks 71 = .ok (.sipush 929, 3) := by decide +kernel
theorem dd_MO_makeChecks_74 : decode cd_MO_makeChecks 74 = .ok (.aload_n 0, 1) := by decide +kernel
theorem dd_MO_makeChecks_75 : decode cd_MO_makeChecks 75 = .ok (.getfield 32, 3) := by decide +kernel
theorem dd_MO_makeChecks_78 : decode cd_MO_makeChecks 78 = .ok (.iload_n 3, 1) := by decide +kernel
theorem dd_MO_makeChecks_79 : decode cd_MO_makeChecks 79 = .ok (.iaload, 1) := by decide +kernel
theorem dd_MO_makeChecks_80 : decode cd_MO_makeChecks 80 = .ok (.isub, 1) := by decide +kernel
theorem dd_MO_makeChecks_81 : decode cd_MO_makeChecks 81 = .ok (.aload_n 0, 1) := by decide +kernel
theorem dd_MO_makeChecks_82 : decode cd_MO_makeChecks 82 = .ok (.getfield 41, 3) := by decide +kernel
theorem dd_MO_makeChecks_85 : decode cd_MO_makeChecks 85 = .ok (.iload 4, 2) := by decide +kernel
theorem dd_MO_makeChecks_87 : decode cd_MO_makeChecks 87 = .ok (.iaload, 1) := by decide +kernel
theorem dd_MO_makeChecks_88 : decode cd_MO_makeChecks 88 = .ok (.imul, 1) := by decide +kernel
theorem dd_MO_makeChecks_89 : decode cd_MO_makeChecks 89 = .ok (.iadd, 1) := by decide +kernel
theorem dd_MO_makeChecks_90 : decode cd_MO_makeChecks 90 = .ok (.sipush 929, 3) := by decide +kernel
theorem dd_MO_makeChecks_93 : decode cd_MO_makeChecks 93 = .ok (.irem, 1) := by decide +kernel
theorem dd_MO_makeChecks_94 : decode cd_MO_makeChecks 94 = .ok (.iastore, 1) := by decide +kernel
theorem dd_MO_makeChecks_95 : decode cd_MO_makeChecks 95 = .ok (.iinc 4 (-1), 3) := by decide +kernel
theorem dd_MO_makeChecks_98 : decode cd_MO_makeChecks 98 = .ok (.goto (-60), 3) := by decide +kernel
theorem dd_MO_makeChecks_101 : decode cd_MO_makeChecks 101 = .ok (.iinc 3 1, 3) := by decide +kernel
theorem dd_MO_makeChecks_104 : decode cd_MO_makeChecks 104 = .ok (.goto (-74), 3) := by decide +kernel
theorem dd_MO_makeChecks_107 : decode cd_MO_makeChecks 107 = .ok (.iload_n 1, 1) := by decide +kernel
theorem dd_MO_makeChecks_108 : decode cd_MO_makeChecks 108 = .ok (.iload_n 2, 1) := by decide +kernel
theorem dd_MO_makeChecks_109 : decode cd_MO_makeChecks 109 = .ok (.isub, 1) := by decide +kernel
theorem dd_MO_makeChecks_110 : decode cd_MO_makeChecks 110 = .ok (.istore_n 3, 1) := by decide +kernel
theorem dd_MO_makeChecks_111 : decode cd_MO_makeChecks 111 = .ok (.iload_n 3, 1) := by decide +kernel
theorem dd_MO_makeChecks_112 : decode cd_MO_makeChecks 112 = .ok (.iload_n 1, 1) := by decide +kernel
theorem dd_MO_makeChecks_113 : decode cd_MO_makeChecks 113 = .ok (.if_icmp .ge 16, 3) := by decide +kernel
theorem dd_MO_makeChecks_116 : decode cd_MO_makeChecks 116 = .ok (.aload_n 0, 1) := by decide +kernel
theorem dd_MO_makeChecks_117 : decode cd_MO_makeChecks 117 = .ok (.getfield 25, 3) := by decide +kernel
theorem dd_MO_makeChecks_120 : decode cd_MO_makeChecks 120 = .ok (.iload_n 3, 1) := by decide +kernel
theorem dd_MO_makeChecks_121 : decode cd_MO_makeChecks 121 = .ok (.iconst 0, 1) := by decide +kernel
theorem dd_MO_makeChecks_122 : decode cd_MO_makeChecks 122 = .ok (.iastore, 1) := by decide +kernel
theorem dd_MO_makeChecks_123 : decode cd_MO_makeChecks 123 = .ok (.iinc 3 1, 3) := by decide +kernel
theorem dd_MO_makeChecks_126 : decode cd_MO_makeChecks 126 = .ok (.goto (-15), 3) := by decide +kernel
theorem dd_MO_makeChecks_129 : decode cd_MO_makeChecks 129 = .ok (.iconst 0, 1) := by decide +kernel
theorem dd_MO_makeChecks_130 : decode cd_MO_makeChecks 130 = .ok (.istore_n 3, 1) := by decide +kernel
theorem dd_MO_makeChecks_131 : decode cd_MO_makeChecks 131 = .ok (.iload_n 3, 1) := by decide +kernel
theorem dd_MO_makeChecks_132 : decode cd_MO_makeChecks 132 = .ok (.iload_n 1, 1) := by decide +kernel
theorem dd_MO_makeChecks_133 : decode cd_MO_makeChecks 133 = .ok (.if_icmp .ge 21, 3) := by decide +kernel
theorem dd_MO_makeChecks_136 : decode cd_MO_makeChecks 136 = .ok (.aload_n 0, 1) := by decide +kernel
theorem dd_MO_makeChecks_137 : decode cd_MO_makeChecks 137 = .ok (.getfield 56, 3) := by decide +kernel
theorem dd_MO_makeChecks_140 : decode cd_MO_makeChecks 140 = .ok (.iload_n 3, 1) := by decide +kernel
theorem dd_MO_makeChecks_141 : decode cd_MO_makeChecks 141 = .ok (.aload_n 0, 1) := by decide +kernel
theorem dd_MO_makeChecks_142 : decode cd_MO_makeChecks 142 = .ok (.getfield 25, 3) := by decide +kernel
theorem dd_MO_makeChecks_145 : decode cd_MO_makeChecks 145 = .ok (.iload_n 3, 1) := by decide +kernel
theorem dd_MO_makeChecks_146 : decode cd_MO_makeChecks 146 = .ok (.iaload, 1) := by decide +kernel
theorem dd_MO_makeChecks_147 : decode cd_MO_makeChecks 147 = .ok (.iastore, 1) := by decide +kernel
theorem dd_MO_makeChecks_148 : decode cd_MO_makeChecks 148 = .ok (.iinc 3 1, 3) := by decide +kernel
theorem dd_MO_makeChecks_151 : decode cd_MO_makeChecks 151 = .ok (.goto (-20), 3) := by decide +kernel
theorem dd_MO_makeChecks_154 : decode cd_MO_makeChecks 154 = .ok (.iconst 0, 1) := by decide +kernel
theorem dd_MO_makeChecks_155 : decode cd_MO_makeChecks 155 = .ok (.istore_n 3, 1) := by decide +kernel
theorem dd_MO_makeChecks_156 : decode cd_MO_makeChecks 156 = .ok (.iload_n 3, 1) := by decide +kernel
theorem dd_MO_makeChecks_157 : decode cd_MO_makeChecks 157 = .ok (.iload_n 1, 1) := by decide +kernel
theorem dd_MO_makeChecks_158 : decode cd_MO_makeChecks 158 = .ok (.iload_n 2, 1) := by decide +kernel
theorem dd_MO_makeChecks_159 : decode cd_MO_makeChecks 159 = .ok (.isub, 1) := by decide +kernel
theorem dd_MO_makeChecks_160 : decode cd_MO_makeChecks 160 = .ok (.if_icmp .ge 71, 3) := by decide +kernel
theorem dd_MO_makeChecks_163 : decode cd_MO_makeChecks 163 = .ok (.aload_n 0, 1) := by decide +kernel
theorem dd_MO_makeChecks_164 : decode cd_MO_makeChecks 164 = .ok (.getfield 56, 3) := by decide +kernel
theorem dd_MO_makeChecks_167 : decode cd_MO_makeChecks 167 = .ok (.iload_n 3, 1) := by decide +kernel
theorem dd_MO_makeChecks_168 : decode cd_MO_makeChecks 168 = .ok (.iaload, 1) := by decide +kernel
theorem dd_MO_makeChecks_169 : decode cd_MO_makeChecks 169 = .ok (.istore 4, 2) := by decide +kernel
theorem dd_MO_makeChecks_171 : decode cd_MO_makeChecks 171 = .ok (.iconst 0, 1) := by decide +kernel
theorem dd_MO_makeChecks_172 : decode cd_MO_makeChecks 172 = .ok (.istore 5, 2) := by decide +kernel
theorem dd_MO_makeChecks_174 : decode cd_MO_makeChecks 174 = .ok (.iload 5, 2) := by decide +kernel
theorem dd_MO_makeChecks_176 : decode cd_MO_makeChecks 176 = .ok (.iload_n 2, 1) := by decide +kernel
theorem dd_MO_makeChecks_177 : decode cd_MO_makeChecks 177 = .ok (.if_icmp .gt 48, 3) := by decide +kernel
theorem dd_MO_makeChecks_180 : decode cd_MO_makeChecks 180 = .ok (.aload_n 0, 1) := by decide +kernel
theorem dd_MO_makeChecks_181 : decode cd_MO_makeChecks 181 = .ok (.getfield 56, 3) := by decide +kernel
theorem dd_MO_makeChecks_184 : decode cd_MO_makeChecks 184 = .ok (.iload_n 3, 1) := by decide +kernel
theorem dd_MO_makeChecks_185 : decode cd_MO_makeChecks 185 = .ok (.iload 5, 2) := by decide +kernel
theorem dd_MO_makeChecks_187 : decode cd_MO_makeChecks 187 = .ok (.iadd, 1) := by decide +kernel
theorem dd_MO_makeChecks_188 : decode cd_MO_makeChecks 188 = .ok (.aload_n 0, 1) := by decide +kernel
theorem dd_MO_makeChecks_189 : decode cd_MO_makeChecks 189 = .ok (.getfield 56, 3) := by decide +kernel
theorem dd_MO_makeChecks_192 : decode cd_MO_makeChecks 192 = .ok (.iload_n 3, 1) := by decide +kernel
theorem dd_MO_makeChecks_193 : decode cd_MO_makeChecks 193 = .ok (.iload 5, 2) := by decide +kernel
theorem dd_MO_makeChecks_195 : decode cd_MO_makeChecks 195 = .ok (.iadd, 1) := by decide +kernel
theorem dd_MO_makeChecks_196 : decode cd_MO_makeChecks 196 = .ok (.iaload, 1) := by decide +kernel
theorem dd_MO_makeChecks_197 : decode cd_MO_makeChecks 197 = .ok (.sipush 929, 3) := by decide +kernel
theorem dd_MO_makeChecks_200 : decode cd_MO_makeChecks 200 = .ok (.iload 4, 2) := by decide +kernel
theorem dd_MO_makeChecks_202 : decode cd_MO_makeChecks 202 = .ok (.isub, 1) := by decide +kernel
theorem dd_MO_makeChecks_203 : decode cd_MO_makeChecks 203 = .ok (.aload_n 0, 1) := by decide +kernel
theorem dd_MO_makeChecks_204 : decode cd_MO_makeChecks 204 = .ok (.getfield 41, 3) := by decide +kernel
theorem dd_MO_makeChecks_207 : decode cd_MO_makeChecks 207 = .ok (.iload_n 2, 1) := by decide +kernel
theorem dd_MO_makeChecks_208 : decode cd_MO_makeChecks 208 = .ok (.iload 5, 2) := by decide +kernel
theorem dd_MO_makeChecks_210 : decode cd_MO_makeChecks 210 = .ok (.isub, 1) := by decide +kernel
theorem dd_MO_makeChecks_211 : decode cd_MO_makeChecks 211 = .ok (.iaload, 1) := by decide +kernel
theorem dd_MO_makeChecks_212 : decode cd_MO_makeChecks 212 = .ok (.imul, 1) := by decide +kernel
theorem dd_MO_makeChecks_213 : decode cd_MO_makeChecks 213 = .ok (.iadd, 1) := by decide +kernel
theorem dd_MO_makeChecks_214 : decode cd_MO_makeChecks 214 = .ok (.sipush 929, 3) := by decide +kernel
theorem dd_MO_makeChecks_217 : decode cd_MO_makeChecks 217 = .ok (.irem, 1) := by decide +kernel
theorem dd_MO_makeChecks_218 : decode cd_MO_makeChecks 218 = .ok (.iastore, 1) := by decide +kernel
theorem dd_MO_makeChecks_219 : decode cd_MO_makeChecks 219 = .ok (.iinc 5 1, 3) := by decide +kernel
theorem dd_MO_makeChecks_222 : decode cd_MO_makeChecks 222 = .ok (.goto (-48), 3) := by decide +kernel
theorem dd_MO_makeChecks_225 : decode cd_MO_makeChecks 225 = .ok (.iinc 3 1, 3) := by decide +kernel
theorem dd_MO_makeChecks_228 : decode cd_MO_makeChecks 228 = .ok (.goto (-72), 3) := by decide +kernel
theorem dd_MO_makeChecks_231 : decode cd_MO_makeChecks 231 = .ok (.iload_n 1, 1) := by decide +kernel
theorem dd_MO_makeChecks_232 : decode cd_MO_makeChecks 232 = .ok (.iload_n 2, 1) := by decide +kernel
theorem dd_MO_makeChecks_233 : decode cd_MO_makeChecks 233 = .ok (.isub, 1) := by decide +kernel
theorem dd_MO_makeChecks_234 : decode cd_MO_makeChecks 234 = .ok (.istore_n 3, 1) := by decide +kernel
theorem dd_MO_makeChecks_235 : decode cd_MO_makeChecks 235 = .ok (.iload_n 3, 1) := by decide +kernel
theorem dd_MO_makeChecks_236 : decode cd_MO_makeChecks 236 = .ok (.iload_n 1, 1) := by decide +kernel
theorem dd_MO_makeChecks_237 : decode cd_MO_makeChecks 237 = .ok (.if_icmp .ge 29, 3) := by decide +kernel
theorem dd_MO_makeChecks_240 : decode cd_MO_makeChecks 240 = .ok (.aload_n 0, 1) := by decide +kernel
theorem dd_MO_makeChecks_241 : decode cd_MO_makeChecks 241 = .ok (.getfield 25, 3) := by decide +kernel
theorem dd_MO_makeChecks_244 : decode cd_MO_makeChecks 244 = .ok (.iload_n 3, 1) := by decide +kernel
theorem dd_MO_makeChecks_245 : decode cd_MO_makeChecks 245 = .ok (.sipush 929, 3) := by decide +kernel
theorem dd_MO_makeChecks_248 : decode cd_MO_makeChecks 248 = .ok (.aload_n 0, 1) := by decide +kernel
theorem dd_MO_makeChecks_249 : decode cd_MO_makeChecks 249 = .ok (.getfield 56, 3) := by decide +kernel
theorem dd_MO_makeChecks_252 : decode cd_MO_makeChecks 252 = .ok (.iload_n 3, 1) := by decide +kernel
theorem dd_MO_makeChecks_253 : decode cd_MO_makeChecks 253 = .ok (.iaload, 1) := by decide +kernel
theorem dd_MO_makeChecks_254 : decode cd_MO_makeChecks 254 = .ok (.isub, 1) := by decide +kernel
theorem dd_MO_makeChecks_255 : decode cd_MO_makeChecks 255 = .ok (.sipush 929, 3) := by decide +kernel
theorem dd_MO_makeChecks_258 : decode cd_MO_makeChecks 258 = .ok (.irem, 1) := by decide +kernel
theorem dd_MO_makeChecks_259 : decode cd_MO_makeChecks 259 = .ok (.iastore, 1) := by decide +kernel
theorem dd_MO_makeChecks_260 : decode cd_MO_makeChecks 260 = .ok (.iinc 3 1, 3) := by decide +kernel
theorem dd_MO_makeChecks_263 : decode cd_MO_makeChecks 263 = .ok (.goto (-28), 3) := by decide +kernel
theorem dd_MO_makeChecks_266 : decode cd_MO_makeChecks 266 = .ok (.return_, 1) := by decide +kernel
theorem dd_MO_blank_0 : decode cd_MO_blank 0 = .ok (.aload_n 0, 1) := by decide +kernel
theorem dd_MO_blank_1 : decode cd_MO_blank 1 = .ok (.iload_n 1, 1) := by decide +kernel
theorem dd_MO_blank_2 : decode cd_MO_blank 2 = .ok (.iconst 3, 1) := by decide +kernel
theorem dd_MO_blank_3 : decode cd_MO_blank 3 = .ok (.if_icmp .lt 33, 3) := by decide +kernel
theorem dd_MO_blank_6 : decode cd_MO_blank 6 = .ok (.iload_n 1, 1) := by decide +kernel
theorem dd_MO_blank_7 : decode cd_MO_blank 7 = .ok (.bipush 90, 2) := by decide +kernel
theorem dd_MO_blank_9 : decode cd_MO_blank 9 = .ok (.if_icmp .gt 27, 3) := by decide +kernel
theorem dd_MO_blank_12 : decode cd_MO_blank 12 = .ok (.iload_n 2, 1) := by decide +kernel
theorem dd_MO_blank_13 : decode cd_MO_blank 13 = .ok (.iconst 1, 1) := by decide +kernel
theorem dd_MO_blank_14 : decode cd_MO_blank 14 = .ok (.if_icmp .lt 22, 3) := by decide +kernel
theorem dd_MO_blank_17 : decode cd_MO_blank 17 = .ok (.iload_n 2, 1) := by decide +kernel
theorem dd_MO_blank_18 : decode cd_MO_blank 18 = .ok (.bipush 30, 2) := by decide +kernel
theorem dd_MO_blank_20 : decode cd_MO_blank 20 = .ok (.if_icmp .gt 16, 3) := by decide +kernel
theorem dd_MO_blank_23 : decode cd_MO_blank 23 = .ok (.iload_n 1, 1) := by decide +kernel
theorem dd_MO_blank_24 : decode cd_MO_blank 24 = .ok (.iload_n 2, 1) := by decide +kernel
theorem dd_MO_blank_25 : decode cd_MO_blank 25 = .ok (.imul, 1) := by decide +kernel
theorem dd_MO_blank_26 : decode cd_MO_blank 26 = .ok (.sipush 928, 3) := by decide +kernel
theorem dd_MO_blank_29 : decode cd_MO_blank 29 = .ok (.if_icmp .gt 7, 3) := by decide +kernel
theorem dd_MO_blank_32 : decode cd_MO_blank 32 = .ok (.iconst 0, 1) := by decide +kernel
theorem dd_MO_blank_33 : decode cd_MO_blank 33 = .ok (.goto 4, 3) := by decide +kernel
theorem dd_MO_blank_36 : decode cd_MO_blank 36 = .ok (.iconst 1, 1) := by decide +kernel
theorem dd_MO_blank_37 : decode cd_MO_blank 37 = .ok (.putfield 68, 3) := by decide +kernel
theorem dd_MO_blank_40 : decode cd_MO_blank 40 = .ok (.aload_n 0, 1) := by decide +kernel
theorem dd_MO_blank_41 : decode cd_MO_blank 41 = .ok (.getfield 68, 3) := by decide +kernel
theorem dd_MO_blank_44 : decode cd_MO_blank 44 = .ok (.ifCond .le 4, 3) := by decide +kernel
theorem dd_MO_blank_47 : decode cd_MO_blank 47 = .ok (.return_, 1) := by decide +kernel
theorem dd_MO_blank_48 : decode cd_MO_blank 48 = .ok (.aload_n 0, 1) := by decide +kernel
theorem dd_MO_blank_49 : decode cd_MO_blank 49 = .ok (.iload_n 1, 1) := by decide +kernel
theorem dd_MO_blank_50 : decode cd_MO_blank 50 = .ok (.putfield 134, 3) := by decide +kernel
theorem dd_MO_blank_53 : decode cd_MO_blank 53 = .ok (.aload_n 0, 1) := by decide +kernel
theorem dd_MO_blank_54 : decode cd_MO_blank 54 = .ok (.iload_n 2, 1) := by decide +kernel
theorem dd_MO_blank_55 : decode cd_MO_blank 55 = .ok (.putfield 137, 3) := by decide +kernel
theorem dd_MO_blank_58 : decode cd_MO_blank 58 = .ok (.iconst 0, 1) := by decide +kernel
theorem dd_MO_blank_59 : decode cd_MO_blank 59 = .ok (.istore_n 3, 1) := by decide +kernel
theorem dd_MO_blank_60 : decode cd_MO_blank 60 = .ok (.iload_n 3, 1) := by decide +kernel
theorem dd_MO_blank_61 : decode cd_MO_blank 61 = .ok (.aload_n 0, 1) := by decide +kernel
theorem dd_MO_blank_62 : decode cd_MO_blank 62 = .ok (.getfield 134, 3) := by decide +kernel
theorem dd_MO_blank_65 : decode cd_MO_blank 65 = .ok (.aload_n 0, 1) := by decide +kernel
theorem dd_MO_blank_66 : decode cd_MO_blank 66 = .ok (.getfield 137, 3) := by decide +kernel
theorem dd_MO_blank_69 : decode cd_MO_blank 69 = .ok (.iconst 2, 1) := by decide +kernel
theorem dd_MO_blank_70 : decode cd_MO_blank 70 = .ok (.iadd, 1) := by decide +kernel
theorem dd_MO_blank_71 : decode cd_MO_blank 71 = .ok (.imul, 1) := by decide +kernel
theorem dd_MO_blank_72 : decode cd_MO_blank 72 = .ok (.if_icmp .ge 16, 3) := by decide +kernel
theorem dd_MO_blank_75 : decode cd_MO_blank 75 = .ok (.aload_n 0, 1) := by decide +kernel
theorem dd_MO_blank_76 : decode cd_MO_blank 76 = .ok (.getfield 22, 3) := by decide +kernel
theorem dd_MO_blank_79 : decode cd_MO_blank 79 = .ok (.iload_n 3, 1) := by decide +kernel
theorem dd_MO_blank_80 : decode cd_MO_blank 80 = .ok (.iconst (-1), 1) := by decide +kernel
theorem dd_MO_blank_81 : decode cd_MO_blank 81 = .ok (.iastore, 1) := by decide +kernel
theorem dd_MO_blank_82 : decode cd_MO_blank 82 = .ok (.iinc 3 1, 3) := by decide +kernel
theorem dd_MO_blank_85 : decode cd_MO_blank 85 = .ok (.goto (-25), 3) := by decide +kernel
theorem dd_MO_blank_88 : decode cd_MO_blank 88 = .ok (.return_, 1) := by decide +kernel
end
section
theorem dd_LW_law_0 : decode cd_LW_law 0 = .ok (.new 8, 3) := by decide +kernel
theorem dd_LW_law_3 : decode cd_LW_law 3 = .ok (.dup, 1) := by decide +kernel
theorem dd_LW_law_4 : decode cd_LW_law 4 = .ok (.invokespecial 57, 3) := by decide +kernel
theorem dd_LW_law_7 : decode cd_LW_law 7 = .ok (.astore_n 1, 1) := by decide +kernel
theorem dd_LW_law_8 : decode cd_LW_law 8 = .ok (.new 58, 3) := by decide +kernel
theorem dd_LW_law_11 : decode cd_LW_law 11 = .ok (.dup, 1) := by decide +kernel
theorem dd_LW_law_12 : decode cd_LW_law 12 = .ok (.invokespecial 60, 3) := by decide +kernel
theorem dd_LW_law_15 : decode cd_LW_law 15 = .ok (.astore_n 2, 1) := by decide +kernel
theorem dd_LW_law_16 : decode cd_LW_law 16 = .ok (.iconst 1, 1) := by decide +kernel
theorem dd_LW_law_17 : decode cd_LW_law 17 = .ok (.newarray .long, 2) := by decide +kernel
theorem dd_LW_law_19 : decode cd_LW_law 19 = .ok (.astore_n 3, 1) := by decide +kernel
theorem dd_LW_law_20 : decode cd_LW_law 20 = .ok (.iconst 0, 1) := by decide +kernel
theorem dd_LW_law_21 : decode cd_LW_law 21 = .ok (.istore 4, 2) := by decide +kernel
theorem dd_LW_law_23 : decode cd_LW_law 23 = .ok (.iload 4, 2) := by decide +kernel
theorem dd_LW_law_25 : decode cd_LW_law 25 = .ok (.aload_n 0, 1) := by decide +kernel
theorem dd_LW_law_26 : decode cd_LW_law 26 = .ok (.arraylength, 1) := by decide +kernel
theorem dd_LW_law_27 : decode cd_LW_law 27 = .ok (.bipush 6, 2) := by decide +kernel
theorem dd_LW_law_29 : decode cd_LW_law 29 = .ok (.isub, 1) := by decide +kernel
theorem dd_LW_law_30 : decode cd_LW_law 30 = .ok (.if_icmp .gt 745, 3) := by decide +kernel
theorem dd_LW_law_33 : decode cd_LW_law 33 = .ok (.aload_n 0, 1) := by decide +kernel
theorem dd_LW_law_34 : decode cd_LW_law 34 = .ok (.iload 4, 2) := by decide +kernel
theorem dd_LW_law_36 : decode cd_LW_law 36 = .ok (.iaload, 1) := by decide +kernel
theorem dd_LW_law_37 : decode cd_LW_law 37 = .ok (.bipush 15, 2) := by decide +kernel
theorem dd_LW_law_39 : decode cd_LW_law 39 = .ok (.iand, 1) := by decide +kernel
theorem dd_LW_law_40 : decode cd_LW_law 40 = .ok (.tableswitch 729 0 11 #[64, 168, 204, 260, 273, 329, 397, 445, 513, 573, 617, 673], 64) := by decide +kernel
theorem dd_LW_law_104 : decode cd_LW_law 104 = .ok (.aload_n 1, 1) := by decide +kernel
theorem dd_LW_law_105 : decode cd_LW_law 105 = .ok (.aload_n 0, 1) := by decide +kernel
theorem dd_LW_law_106 : decode cd_LW_law 106 = .ok (.iload 4, 2) := by decide +kernel
theorem dd_LW_law_108 : decode cd_LW_law 108 = .ok (.iconst 1, 1) := by decide +kernel
theorem dd_LW_law_109 : decode cd_LW_law 109 = .ok (.iadd, 1) := by decide +kernel
theorem dd_LW_law_110 : decode cd_LW_law 110 = .ok (.iaload, 1) := by decide +kernel
theorem dd_LW_law_111 : decode cd_LW_law 111 = .ok (.aload_n 0, 1) := by decide +kernel
theorem dd_LW_law_112 : decode cd_LW_law 112 = .ok (.iload 4, 2) := by decide +kernel
theorem dd_LW_law_114 : decode cd_LW_law 114 = .ok (.iconst 2, 1) := by decide +kernel
theorem dd_LW_law_115 : decode cd_LW_law 115 = .ok (.iadd, 1) := by decide +kernel
theorem dd_LW_law_116 : decode cd_LW_law 116 = .ok (.iaload, 1) := by decide +kernel
theorem dd_LW_law_117 : decode cd_LW_law 117 = .ok (.aload_n 0, 1) := by decide +kernel
theorem dd_LW_law_118 : decode cd_LW_law 118 = .ok (.iload 4, 2) := by decide +kernel
theorem dd_LW_law_120 : decode cd_LW_law 120 = .ok (.iconst 3, 1) := by decide +kernel
theorem dd_LW_law_121 : decode cd_LW_law 121 = .ok (.iadd, 1) := by decide +kernel
theorem dd_LW_law_122 : decode cd_LW_law 122 = .ok (.iaload, 1) := by decide +kernel
theorem dd_LW_law_123 : decode cd_LW_law 123 = .ok (.aload_n 0, 1) := by decide +kernel
theorem dd_LW_law_124 : decode cd_LW_law 124 = .ok (.iload 4, 2) := by decide +kernel
theorem dd_LW_law_126 : decode cd_LW_law 126 = .ok (.iconst 4, 1) := by decide +kernel
theorem dd_LW_law_127 : decode cd_LW_law 127 = .ok (.iadd, 1) := by decide +kernel
theorem dd_LW_law_128 : decode cd_LW_law 128 = .ok (.iaload, 1) := by decide +kernel
theorem dd_LW_law_129 : decode cd_LW_law 129 = .ok (.aload_n 0, 1) := by decide +kernel
theorem dd_LW_law_130 : decode cd_LW_law 130 = .ok (.iload 4, 2) := by decide +kernel
theorem dd_LW_law_132 : decode cd_LW_law 132 = .ok (.iconst 5, 1) := by decide +kernel
theorem dd_LW_law_133 : decode cd_LW_law 133 = .ok (.iadd, 1) := by decide +kernel
theorem dd_LW_law_134 : decode cd_LW_law 134 = .ok (.iaload, 1) := by decide +kernel
theorem dd_LW_law_135 : decode cd_LW_law 135 = .ok (.aload_n 3, 1) := by decide +kernel
theorem dd_LW_law_136 : decode cd_LW_law 136 = .ok (.invokestatic 61, 3) := by decide +kernel
theorem dd_LW_law_139 : decode cd_LW_law 139 = .ok (.istore 5, 2) := by decide +kernel
theorem dd_LW_law_141 : decode cd_LW_law 141 = .ok (.aload_n 2, 1) := by decide +kernel
theorem dd_LW_law_142 : decode cd_LW_law 142 = .ok (.aload_n 0, 1) := by decide +kernel
theorem dd_LW_law_143 : decode cd_LW_law 143 = .ok (.iload 4, 2) := by decide +kernel
theorem dd_LW_law_145 : decode cd_LW_law 145 = .ok (.iconst 1, 1) := by decide +kernel
theorem dd_LW_law_146 : decode cd_LW_law 146 = .ok (.iadd, 1) := by decide +kernel
theorem dd_LW_law_147 : decode cd_LW_law 147 = .ok (.iaload, 1) := by decide +kernel
theorem dd_LW_law_148 : decode cd_LW_law 148 = .ok (.aload_n 0, 1) := by decide +kernel
theorem dd_LW_law_149 : decode cd_LW_law 149 = .ok (.iload 4, 2) := by decide +kernel
theorem dd_LW_law_151 : decode cd_LW_law 151 = .ok (.iconst 2, 1) := by decide +kernel
theorem dd_LW_law_152 : decode cd_LW_law 152 = .ok (.iadd, 1) := by decide +kernel
theorem dd_LW_law_153 : decode cd_LW_law 153 = .ok (.iaload, 1) := by decide +kernel
theorem dd_LW_law_154 : decode cd_LW_law 154 = .ok (.aload_n 0, 1) := by decide +kernel
theorem dd_LW_law_155 : decode cd_LW_law 155 = .ok (.iload 4, 2) := by decide +kernel
theorem dd_LW_law_157 : decode cd_LW_law 157 = .ok (.iconst 3, 1) := by decide +kernel
theorem dd_LW_law_158 : decode cd_LW_law 158 = .ok (.iadd, 1) := by decide +kernel
theorem dd_LW_law_159 : decode cd_LW_law 159 = .ok (.iaload, 1) := by decide +kernel
theorem dd_LW_law_160 : decode cd_LW_law 160 = .ok (.aload_n 0, 1) := by decide +kernel
theorem dd_LW_law_161 : decode cd_LW_law 161 = .ok (.iload 4, 2) := by decide +kernel
theorem dd_LW_law_163 : decode cd_LW_law 163 = .ok (.iconst 4, 1) := by decide +kernel
theorem dd_LW_law_164 : decode cd_LW_law 164 = .ok (.iadd, 1) := by decide +kernel
theorem dd_LW_law_165 : decode cd_LW_law 165 = .ok (.iaload, 1) := by decide +kernel
theorem dd_LW_law_166 : decode cd_LW_law 166 = .ok (.aload_n 0, 1) := by decide +kernel
theorem dd_LW_law_167 : decode cd_LW_law 167 = .ok (.iload 4, 2) := by decide +kernel
theorem dd_LW_law_169 : decode cd_LW_law 169 = .ok (.iconst 5, 1) := by decide +kernel
theorem dd_LW_law_170 : decode cd_LW_law 170 = .ok (.iadd, 1) := by decide +kernel
theorem dd_LW_law_171 : decode cd_LW_law 171 = .ok (.iaload, 1) := by decide +kernel
theorem dd_LW_law_172 : decode cd_LW_law 172 = .ok (.invokevirtual 66, 3) := by decide +kernel
theorem dd_LW_law_175 : decode cd_LW_law 175 = .ok (.istore 6, 2) := by decide +kernel
theorem dd_LW_law_177 : decode cd_LW_law 177 = .ok (.aload_n 2, 1) := by decide +kernel
theorem dd_LW_law_178 : decode cd_LW_law 178 = .ok (.invokevirtual 67, 3) := by decide +kernel
theorem dd_LW_law_181 : decode cd_LW_law 181 = .ok (.iload 5, 2) := by decide +kernel
theorem dd_LW_law_183 : decode cd_LW_law 183 = .ok (.if_icmp .eq 5, 3) := by decide +kernel
theorem dd_LW_law_188 : decode cd_LW_law 188 = .ok (.iload 5, 2) := by decide +kernel
theorem dd_LW_law_190 : decode cd_LW_law 190 = .ok (.ifCond .ne 15, 3) := by decide +kernel
theorem dd_LW_law_193 : decode cd_LW_law 193 = .ok (.aload_n 3, 1) := by decide +kernel
theorem dd_LW_law_194 : decode cd_LW_law 194 = .ok (.iconst 0, 1) := by decide +kernel
theorem dd_LW_law_195 : decode cd_LW_law 195 = .ok (.laload, 1) := by decide +kernel
theorem dd_LW_law_196 : decode cd_LW_law 196 = .ok (.iload 6, 2) := by decide +kernel
theorem dd_LW_law_198 : decode cd_LW_law 198 = .ok (.i2l, 1) := by decide +kernel
theorem dd_LW_law_199 : decode cd_LW_law 199 = .ok (.lcmp, 1) := by decide +kernel
theorem dd_LW_law_200 : decode cd_LW_law 200 = .ok (.ifCond .eq 5, 3) := by decide +kernel
theorem dd_LW_law_205 : decode cd_LW_law 205 = .ok (.goto 564, 3) := by decide +kernel
theorem dd_LW_law_208 : decode cd_LW_law 208 = .ok (.aload_n 1, 1) := by decide +kernel
theorem dd_LW_law_209 : decode cd_LW_law 209 = .ok (.aload_n 0, 1) := by decide +kernel
theorem dd_LW_law_210 : decode cd_LW_law 210 = .ok (.iload 4, 2) := by decide +kernel
theorem dd_LW_law_212 : decode cd_LW_law 212 = .ok (.iconst 1, 1) := by decide +kernel
theorem dd_LW_law_213 : decode cd_LW_law 213 = .ok (.iadd, 1) := by decide +kernel
theorem dd_LW_law_214 : decode cd_LW_law 214 = .ok (.iaload, 1) := by decide +kernel
theorem dd_LW_law_215 : decode cd_LW_law 215 = .ok (.invokestatic 70, 3) := by decide +kernel
theorem dd_LW_law_218 : decode cd_LW_law 218 = .ok (.istore 5, 2) := by decide +kernel
theorem dd_LW_law_220 : decode cd_LW_law 220 = .ok (.aload_n 2, 1) := by decide +kernel
theorem dd_LW_law_221 : decode cd_LW_law 221 = .ok (.aload_n 0, 1) := by decide +kernel
theorem dd_LW_law_222 : decode cd_LW_law 222 = .ok (.iload 4, 2) := by decide +kernel
theorem dd_LW_law_224 : decode cd_LW_law 224 = .ok (.iconst 1, 1) := by decide +kernel
theorem dd_LW_law_225 : decode cd_LW_law 225 = .ok (.iadd, 1) := by decide +kernel
theorem dd_LW_law_226 : decode cd_LW_law 226 = .ok (.iaload, 1) := by decide +kernel
theorem dd_LW_law_227 : decode cd_LW_law 227 = .ok (.invokevirtual 73, 3) := by decide +kernel
theorem dd_LW_law_230 : decode cd_LW_law 230 = .ok (.aload_n 2, 1) := by decide +kernel
theorem dd_LW_law_231 : decode cd_LW_law 231 = .ok (.invokevirtual 67, 3) := by decide +kernel
theorem dd_LW_law_234 : decode cd_LW_law 234 = .ok (.iload 5, 2) := by decide +kernel
theorem dd_LW_law_236 : decode cd_LW_law 236 = .ok (.if_icmp .eq 5, 3) := by decide +kernel
theorem dd_LW_law_241 : decode cd_LW_law 241 = .ok (.goto 528, 3) := by decide +kernel
theorem dd_LW_law_244 : decode cd_LW_law 244 = .ok (.aload_n 1, 1) := by decide +kernel
theorem dd_LW_law_245 : decode cd_LW_law 245 = .ok (.aload_n 0, 1) := by decide +kernel
theorem dd_LW_law_246 : decode cd_LW_law 246 = .ok (.iload 4, 2) := by decide +kernel
theorem dd_LW_law_248 : decode cd_LW_law 248 = .ok (.iconst 1, 1) := by decide +kernel
theorem dd_LW_law_249 : decode cd_LW_law 249 = .ok (.iadd, 1) := by decide +kernel
theorem dd_LW_law_250 : decode cd_LW_law 250 = .ok (.iaload, 1) := by decide +kernel
theorem dd_LW_law_251 : decode cd_LW_law 251 = .ok (.aload_n 3, 1) := by decide +kernel
theorem dd_LW_law_252 : decode cd_LW_law 252 = .ok (.invokestatic 74, 3) := by decide +kernel
theorem dd_LW_law_255 : decode cd_LW_law 255 = .ok (.istore 5, 2) := by decide +kernel
theorem dd_LW_law_257 : decode cd_LW_law 257 = .ok (.aload_n 2, 1) := by decide +kernel
theorem dd_LW_law_258 : decode cd_LW_law 258 = .ok (.aload_n 0, 1) := by decide +kernel
theorem dd_LW_law_259 : decode cd_LW_law 259 = .ok (.iload 4, 2) := by decide +kernel
theorem dd_LW_law_261 : decode cd_LW_law 261 = .ok (.iconst 1, 1) := by decide +kernel
theorem dd_LW_law_262 : decode cd_LW_law 262 = .ok (.iadd, 1) := by decide +kernel
theorem dd_LW_law_263 : decode cd_LW_law 263 = .ok (.iaload, 1) := by decide +kernel
theorem dd_LW_law_264 : decode cd_LW_law 264 = .ok (.invokevirtual 77, 3) := by decide +kernel
theorem dd_LW_law_267 : decode cd_LW_law 267 = .ok (.istore 6, 2) := by decide +kernel
theorem dd_LW_law_269 : decode cd_LW_law 269 = .ok (.aload_n 2, 1) := by decide +kernel
theorem dd_LW_law_270 : decode cd_LW_law 270 = .ok (.invokevirtual 67, 3) := by decide +kernel
theorem dd_LW_law_273 : decode cd_LW_law 273 = .ok (.iload 5, 2) := by decide +kernel
theorem dd_LW_law_275 : decode cd_LW_law 275 = .ok (.if_icmp .eq 5, 3) := by decide +kernel
theorem dd_LW_law_280 : decode cd_LW_law 280 = .ok (.iload 5, 2) := by decide +kernel
theorem dd_LW_law_282 : decode cd_LW_law 282 = .ok (.ifCond .ne 15, 3) := by decide +kernel
theorem dd_LW_law_297 : decode cd_LW_law 297 = .ok (.goto 472, 3) := by decide +kernel
theorem dd_LW_law_300 : decode cd_LW_law 300 = .ok (.aload_n 1, 1) := by decide +kernel
theorem dd_LW_law_301 : decode cd_LW_law 301 = .ok (.invokevirtual 78, 3) := by decide +kernel
theorem dd_LW_law_304 : decode cd_LW_law 304 = .ok (.aload_n 2, 1) := by decide +kernel
theorem dd_LW_law_305 : decode cd_LW_law 305 = .ok (.invokevirtual 81, 3) := by decide +kernel
theorem dd_LW_law_308 : decode cd_LW_law 308 = .ok (.if_icmp .eq 461, 3) := by decide +kernel
theorem dd_LW_law_313 : decode cd_LW_law 313 = .ok (.aload_n 1, 1) := by decide +kernel
theorem dd_LW_law_314 : decode cd_LW_law 314 = .ok (.aload_n 0, 1) := by decide +kernel
theorem dd_LW_law_315 : decode cd_LW_law 315 = .ok (.iload 4, 2) := by decide +kernel
theorem dd_LW_law_317 : decode cd_LW_law 317 = .ok (.iconst 1, 1) := by decide +kernel
theorem dd_LW_law_318 : decode cd_LW_law 318 = .ok (.iadd, 1) := by decide +kernel
theorem dd_LW_law_319 : decode cd_LW_law 319 = .ok (.iaload, 1) := by decide +kernel
theorem dd_LW_law_320 : decode cd_LW_law 320 = .ok (.aload_n 3, 1) := by decide +kernel
theorem dd_LW_law_321 : decode cd_LW_law 321 = .ok (.invokestatic 82, 3) := by decide +kernel
theorem dd_LW_law_324 : decode cd_LW_law 324 = .ok (.istore 5, 2) := by decide +kernel
theorem dd_LW_law_326 : decode cd_LW_law 326 = .ok (.aload_n 2, 1) := by decide +kernel
theorem dd_LW_law_327 : decode cd_LW_law 327 = .ok (.aload_n 0, 1) := by decide +kernel
theorem dd_LW_law_328 : decode cd_LW_law 328 = .ok (.iload 4, 2) := by decide +kernel
theorem dd_LW_law_330 : decode cd_LW_law 330 = .ok (.iconst 1, 1) := by decide +kernel
theorem dd_LW_law_331 : decode cd_LW_law 331 = .ok (.iadd, 1) := by decide +kernel
theorem dd_LW_law_332 : decode cd_LW_law 332 = .ok (.iaload, 1) := by decide +kernel
theorem dd_LW_law_333 : decode cd_LW_law 333 = .ok (.invokevirtual 84, 3) := by decide +kernel
theorem dd_LW_law_336 : decode cd_LW_law 336 = .ok (.istore 6, 2) := by decide +kernel
theorem dd_LW_law_338 : decode cd_LW_law 338 = .ok (.aload_n 2, 1) := by decide +kernel
theorem dd_LW_law_339 : decode cd_LW_law 339 = .ok (.invokevirtual 67, 3) := by decide +kernel
theorem dd_LW_law_342 : decode cd_LW_law 342 = .ok (.iload 5, 2) := by decide +kernel
theorem dd_LW_law_344 : decode cd_LW_law 344 = .ok (.if_icmp .eq 5, 3) := by decide +kernel
theorem dd_LW_law_349 : decode cd_LW_law 349 = .ok (.iload 5, 2) := by decide +kernel
theorem dd_LW_law_351 : decode cd_LW_law 351 = .ok (.ifCond .ne 15, 3) := by decide +kernel
theorem dd_LW_law_366 : decode cd_LW_law 366 = .ok (.goto 403, 3) := by decide +kernel
theorem dd_LW_law_369 : decode cd_LW_law 369 = .ok (.aload_n 1, 1) := by decide +kernel
theorem dd_LW_law_370 : decode cd_LW_law 370 = .ok (.aload_n 0, 1) := by decide +kernel
theorem dd_LW_law_371 : decode cd_LW_law 371 = .ok (.iload 4, 2) := by decide +kernel
theorem dd_LW_law_373 : decode cd_LW_law 373 = .ok (.iconst 1, 1) := by decide +kernel
theorem dd_LW_law_374 : decode cd_LW_law 374 = .ok (.iadd, 1) := by decide +kernel
theorem dd_LW_law_375 : decode cd_LW_law 375 = .ok (.iaload, 1) := by decide +kernel
theorem dd_LW_law_376 : decode cd_LW_law 376 = .ok (.aload_n 0, 1) := by decide +kernel
theorem dd_LW_law_377 : decode cd_LW_law 377 = .ok (.iload 4, 2) := by decide +kernel
theorem dd_LW_law_379 : decode cd_LW_law 379 = .ok (.iconst 2, 1) := by decide +kernel
theorem dd_LW_law_380 : decode cd_LW_law 380 = .ok (.iadd, 1) := by decide +kernel
theorem dd_LW_law_381 : decode cd_LW_law 381 = .ok (.iaload, 1) := by decide +kernel
theorem dd_LW_law_382 : decode cd_LW_law 382 = .ok (.aload_n 3, 1) := by decide +kernel
theorem dd_LW_law_383 : decode cd_LW_law 383 = .ok (.invokestatic 85, 3) := by decide +kernel
theorem dd_LW_law_386 : decode cd_LW_law 386 = .ok (.istore 5, 2) := by decide +kernel
theorem dd_LW_law_388 : decode cd_LW_law 388 = .ok (.aload_n 2, 1) := by decide +kernel
theorem dd_LW_law_389 : decode cd_LW_law 389 = .ok (.aload_n 0, 1) := by decide +kernel
theorem dd_LW_law_390 : decode cd_LW_law 390 = .ok (.iload 4, 2) := by decide +kernel
theorem dd_LW_law_392 : decode cd_LW_law 392 = .ok (.iconst 1, 1) := by decide +kernel
theorem dd_LW_law_393 : decode cd_LW_law 393 = .ok (.iadd, 1) := by decide +kernel
theorem dd_LW_law_394 : decode cd_LW_law 394 = .ok (.iaload, 1) := by decide +kernel
theorem dd_LW_law_395 : decode cd_LW_law 395 = .ok (.aload_n 0, 1) := by decide +kernel
theorem dd_LW_law_396 : decode cd_LW_law 396 = .ok (.iload 4, 2) := by decide +kernel
theorem dd_LW_law_398 : decode cd_LW_law 398 = .ok (.iconst 2, 1) := by decide +kernel
theorem dd_LW_law_399 : decode cd_LW_law 399 = .ok (.iadd, 1) := by decide +kernel
theorem dd_LW_law_400 : decode cd_LW_law 400 = .ok (.iaload, 1) := by decide +kernel
theorem dd_LW_law_401 : decode cd_LW_law 401 = .ok (.invokevirtual 88, 3) := by decide +kernel
theorem dd_LW_law_404 : decode cd_LW_law 404 = .ok (.istore 6, 2) := by decide +kernel
theorem dd_LW_law_406 : decode cd_LW_law 406 = .ok (.aload_n 2, 1) := by decide +kernel
theorem dd_LW_law_407 : decode cd_LW_law 407 = .ok (.invokevirtual 67, 3) := by decide +kernel
theorem dd_LW_law_410 : decode cd_LW_law 410 = .ok (.iload 5, 2) := by decide +kernel
theorem dd_LW_law_412 : decode cd_LW_law 412 = .ok (.if_icmp .eq 5, 3) := by decide +kernel
theorem dd_LW_law_417 : decode cd_LW_law 417 = .ok (.iload 5, 2) := by decide +kernel
theorem dd_LW_law_419 : decode cd_LW_law 419 = .ok (.ifCond .ne 15, 3) := by decide +kernel
theorem dd_LW_law_422 : decode cd_LW_law 422 = .ok (.aload_n 3, 1) := by decide +kernel
theorem dd_LW_law_423 : decode cd_LW_law 423 = .ok (.iconst 0, 1) := by decide +kernel
theorem dd_LW_law_424 : decode cd_LW_law 424 = .ok (.laload, 1) := by decide +kernel
theorem dd_LW_law_425 : decode cd_LW_law 425 = .ok (.iload 6, 2) := by decide +kernel
theorem dd_LW_law_427 : decode cd_LW_law 427 = .ok (.i2l, 1) := by decide +kernel
theorem dd_LW_law_428 : decode cd_LW_law 428 = .ok (.lcmp, 1) := by decide +kernel
theorem dd_LW_law_429 : decode cd_LW_law 429 = .ok (.ifCond .eq 5, 3) := by decide +kernel
theorem dd_LW_law_434 : decode cd_LW_law 434 = .ok (.goto 335, 3) := by decide +kernel
theorem dd_LW_law_437 : decode cd_LW_law 437 = .ok (.aload_n 1, 1) := by decide +kernel
theorem dd_LW_law_438 : decode cd_LW_law 438 = .ok (.aload_n 0, 1) := by decide +kernel
theorem dd_LW_law_439 : decode cd_LW_law 439 = .ok (.iload 4, 2) := by decide +kernel
theorem dd_LW_law_441 : decode cd_LW_law 441 = .ok (.iconst 1, 1) := by decide +kernel
theorem dd_LW_law_442 : decode cd_LW_law 442 = .ok (.iadd, 1) := by decide +kernel
theorem dd_LW_law_443 : decode cd_LW_law 443 = .ok (.iaload, 1) := by decide +kernel
theorem dd_LW_law_444 : decode cd_LW_law 444 = .ok (.aload_n 0, 1) := by decide +kernel
theorem dd_LW_law_445 : decode cd_LW_law 445 = .ok (.iload 4, 2) := by decide +kernel
theorem dd_LW_law_447 : decode cd_LW_law 447 = .ok (.iconst 2, 1) := by decide +kernel
theorem dd_LW_law_448 : decode cd_LW_law 448 = .ok (.iadd, 1) := by decide +kernel
theorem dd_LW_law_449 : decode cd_LW_law 449 = .ok (.iaload, 1) := by decide +kernel
theorem dd_LW_law_450 : decode cd_LW_law 450 = .ok (.invokestatic 89, 3) := by decide +kernel
theorem dd_LW_law_453 : decode cd_LW_law 453 = .ok (.istore 5, 2) := by decide +kernel
theorem dd_LW_law_455 : decode cd_LW_law 455 = .ok (.aload_n 2, 1) := by decide +kernel
theorem dd_LW_law_456 : decode cd_LW_law 456 = .ok (.aload_n 0, 1) := by decide +kernel
theorem dd_LW_law_457 : decode cd_LW_law 457 = .ok (.iload 4, 2) := by decide +kernel
theorem dd_LW_law_459 : decode cd_LW_law 459 = .ok (.iconst 1, 1) := by decide +kernel
theorem dd_LW_law_460 : decode cd_LW_law 460 = .ok (.iadd, 1) := by decide +kernel
theorem dd_LW_law_461 : decode cd_LW_law 461 = .ok (.iaload, 1) := by decide +kernel
theorem dd_LW_law_462 : decode cd_LW_law 462 = .ok (.aload_n 0, 1) := by decide +kernel
theorem dd_LW_law_463 : decode cd_LW_law 463 = .ok (.iload 4, 2) := by decide +kernel
theorem dd_LW_law_465 : decode cd_LW_law 465 = .ok (.iconst 2, 1) := by decide +kernel
theorem dd_LW_law_466 : decode cd_LW_law 466 = .ok (.iadd, 1) := by decide +kernel
theorem dd_LW_law_467 : decode cd_LW_law 467 = .ok (.iaload, 1) := by decide +kernel
theorem dd_LW_law_468 : decode cd_LW_law 468 = .ok (.invokevirtual 92, 3) := by decide +kernel
theorem dd_LW_law_471 : decode cd_LW_law 471 = .ok (.aload_n 2, 1) := by decide +kernel
theorem dd_LW_law_472 : decode cd_LW_law 472 = .ok (.invokevirtual 67, 3) := by decide +kernel
theorem dd_LW_law_475 : decode cd_LW_law 475 = .ok (.iload 5, 2) := by decide +kernel
theorem dd_LW_law_477 : decode cd_LW_law 477 = .ok (.if_icmp .eq 5, 3) := by decide +kernel
theorem dd_LW_law_482 : decode cd_LW_law 482 = .ok (.goto 287, 3) := by decide +kernel
theorem dd_LW_law_485 : decode cd_LW_law 485 = .ok (.aload_n 1, 1) := by decide +kernel
theorem dd_LW_law_486 : decode cd_LW_law 486 = .ok (.aload_n 0, 1) := by decide +kernel
theorem dd_LW_law_487 : decode cd_LW_law 487 = .ok (.iload 4, 2) := by decide +kernel
theorem dd_LW_law_489 : decode cd_LW_law 489 = .ok (.iconst 1, 1) := by decide +kernel
theorem dd_LW_law_490 : decode cd_LW_law 490 = .ok (.iadd, 1) := by decide +kernel
theorem dd_LW_law_491 : decode cd_LW_law 491 = .ok (.iaload, 1) := by decide +kernel
theorem dd_LW_law_492 : decode cd_LW_law 492 = .ok (.aload_n 0, 1) := by decide +kernel
theorem dd_LW_law_493 : decode cd_LW_law 493 = .ok (.iload 4, 2) := by decide +kernel
theorem dd_LW_law_495 : decode cd_LW_law 495 = .ok (.iconst 2, 1) := by decide +kernel
theorem dd_LW_law_496 : decode cd_LW_law 496 = .ok (.iadd, 1) := by decide +kernel
theorem dd_LW_law_497 : decode cd_LW_law 497 = .ok (.iaload, 1) := by decide +kernel
theorem dd_LW_law_498 : decode cd_LW_law 498 = .ok (.aload_n 3, 1) := by decide +kernel
theorem dd_LW_law_499 : decode cd_LW_law 499 = .ok (.invokestatic 93, 3) := by decide +kernel
theorem dd_LW_law_502 : decode cd_LW_law 502 = .ok (.istore 5, 2) := by decide +kernel
theorem dd_LW_law_504 : decode cd_LW_law 504 = .ok (.aload_n 2, 1) := by decide +kernel
theorem dd_LW_law_505 : decode cd_LW_law 505 = .ok (.aload_n 0, 1) := by decide +kernel
theorem dd_LW_law_506 : decode cd_LW_law 506 = .ok (.iload 4, 2) := by decide +kernel
theorem dd_LW_law_508 : decode cd_LW_law 508 = .ok (.iconst 1, 1) := by decide +kernel
theorem dd_LW_law_509 : decode cd_LW_law 509 = .ok (.iadd, 1) := by decide +kernel
theorem dd_LW_law_510 : decode cd_LW_law 510 = .ok (.iaload, 1) := by decide +kernel
theorem dd_LW_law_511 : decode cd_LW_law 511 = .ok (.aload_n 0, 1) := by decide +kernel
theorem dd_LW_law_512 : decode cd_LW_law 512 = .ok (.iload 4, 2) := by decide +kernel
theorem dd_LW_law_514 : decode cd_LW_law 514 = .ok (.iconst 2, 1) := by decide +kernel
theorem dd_LW_law_515 : decode cd_LW_law 515 = .ok (.iadd, 1) := by decide +kernel
theorem dd_LW_law_516 : decode cd_LW_law 516 = .ok (.iaload, 1) := by decide +kernel
theorem dd_LW_law_517 : decode cd_LW_law 517 = .ok (.invokevirtual 95, 3) := by decide +kernel
theorem dd_LW_law_520 : decode cd_LW_law 520 = .ok (.istore 6, 2) := by decide +kernel
theorem dd_LW_law_522 : decode cd_LW_law 522 = .ok (.aload_n 2, 1) := by decide +kernel
theorem dd_LW_law_523 : decode cd_LW_law 523 = .ok (.invokevirtual 67, 3) := by decide +kernel
theorem dd_LW_law_526 : decode cd_LW_law 526 = .ok (.iload 5, 2) := by decide +kernel
theorem dd_LW_law_528 : decode cd_LW_law 528 = .ok (.if_icmp .eq 5, 3) := by decide +kernel
theorem dd_LW_law_533 : decode cd_LW_law 533 = .ok (.iload 5, 2) := by decide +kernel
theorem dd_LW_law_535 : decode cd_LW_law 535 = .ok (.ifCond .ne 15, 3) := by decide +kernel
theorem dd_LW_law_550 : decode cd_LW_law 550 = .ok (.goto 219, 3) := by decide +kernel
theorem dd_LW_law_553 : decode cd_LW_law 553 = .ok (.aload_n 1, 1) := by decide +kernel
theorem dd_LW_law_554 : decode cd_LW_law 554 = .ok (.aload_n 0, 1) := by decide +kernel
theorem dd_LW_law_555 : decode cd_LW_law 555 = .ok (.iload 4, 2) := by decide +kernel
theorem dd_LW_law_557 : decode cd_LW_law 557 = .ok (.iconst 1, 1) := by decide +kernel
theorem dd_LW_law_558 : decode cd_LW_law 558 = .ok (.iadd, 1) := by decide +kernel
theorem dd_LW_law_559 : decode cd_LW_law 559 = .ok (.iaload, 1) := by decide +kernel
theorem dd_LW_law_560 : decode cd_LW_law 560 = .ok (.aload_n 0, 1) := by decide +kernel
theorem dd_LW_law_561 : decode cd_LW_law 561 = .ok (.iload 4, 2) := by decide +kernel
theorem dd_LW_law_563 : decode cd_LW_law 563 = .ok (.iconst 2, 1) := by decide +kernel
theorem dd_LW_law_564 : decode cd_LW_law 564 = .ok (.iadd, 1) := by decide +kernel
theorem dd_LW_law_565 : decode cd_LW_law 565 = .ok (.iaload, 1) := by decide +kernel
theorem dd_LW_law_566 : decode cd_LW_law 566 = .ok (.aload_n 0, 1) := by decide +kernel
theorem dd_LW_law_567 : decode cd_LW_law 567 = .ok (.iload 4, 2) := by decide +kernel
theorem dd_LW_law_569 : decode cd_LW_law 569 = .ok (.iconst 3, 1) := by decide +kernel
theorem dd_LW_law_570 : decode cd_LW_law 570 = .ok (.iadd, 1) := by decide +kernel
theorem dd_LW_law_571 : decode cd_LW_law 571 = .ok (.iaload, 1) := by decide +kernel
theorem dd_LW_law_572 : decode cd_LW_law 572 = .ok (.invokestatic 96, 3) := by decide +kernel
theorem dd_LW_law_575 : decode cd_LW_law 575 = .ok (.istore 5, 2) := by decide +kernel
theorem dd_LW_law_577 : decode cd_LW_law 577 = .ok (.aload_n 2, 1) := by decide +kernel
theorem dd_LW_law_578 : decode cd_LW_law 578 = .ok (.aload_n 0, 1) := by decide +kernel
theorem dd_LW_law_579 : decode cd_LW_law 579 = .ok (.iload 4, 2) := by decide +kernel
theorem dd_LW_law_581 : decode cd_LW_law 581 = .ok (.iconst 1, 1) := by decide +kernel
theorem dd_LW_law_582 : decode cd_LW_law 582 = .ok (.iadd, 1) := by decide +kernel
theorem dd_LW_law_583 : decode cd_LW_law 583 = .ok (.iaload, 1) := by decide +kernel
theorem dd_LW_law_584 : decode cd_LW_law 584 = .ok (.aload_n 0, 1) := by decide +kernel
theorem dd_LW_law_585 : decode cd_LW_law 585 = .ok (.iload 4, 2) := by decide +kernel
theorem dd_LW_law_587 : decode cd_LW_law 587 = .ok (.iconst 2, 1) := by decide +kernel
theorem dd_LW_law_588 : decode cd_LW_law 588 = .ok (.iadd, 1) := by decide +kernel
theorem dd_LW_law_589 : decode cd_LW_law 589 = .ok (.iaload, 1) := by decide +kernel
theorem dd_LW_law_590 : decode cd_LW_law 590 = .ok (.aload_n 0, 1) := by decide +kernel
theorem dd_LW_law_591 : decode cd_LW_law 591 = .ok (.iload 4, 2) := by decide +kernel
theorem dd_LW_law_593 : decode cd_LW_law 593 = .ok (.iconst 3, 1) := by decide +kernel
theorem dd_LW_law_594 : decode cd_LW_law 594 = .ok (.iadd, 1) := by decide +kernel
theorem dd_LW_law_595 : decode cd_LW_law 595 = .ok (.iaload, 1) := by decide +kernel
theorem dd_LW_law_596 : decode cd_LW_law 596 = .ok (.invokevirtual 99, 3) := by decide +kernel
theorem dd_LW_law_599 : decode cd_LW_law 599 = .ok (.aload_n 2, 1) := by decide +kernel
theorem dd_LW_law_600 : decode cd_LW_law 600 = .ok (.invokevirtual 67, 3) := by decide +kernel
theorem dd_LW_law_603 : decode cd_LW_law 603 = .ok (.iload 5, 2) := by decide +kernel
theorem dd_LW_law_605 : decode cd_LW_law 605 = .ok (.if_icmp .eq 5, 3) := by decide +kernel
theorem dd_LW_law_610 : decode cd_LW_law 610 = .ok (.goto 159, 3) := by decide +kernel
theorem dd_LW_law_613 : decode cd_LW_law 613 = .ok (.aload_n 1, 1) := by decide +kernel
theorem dd_LW_law_614 : decode cd_LW_law 614 = .ok (.aload_n 3, 1) := by decide +kernel
theorem dd_LW_law_615 : decode cd_LW_law 615 = .ok (.invokestatic 100, 3) := by decide +kernel
theorem dd_LW_law_618 : decode cd_LW_law 618 = .ok (.istore 5, 2) := by decide +kernel
theorem dd_LW_law_620 : decode cd_LW_law 620 = .ok (.aload_n 2, 1) := by decide +kernel
theorem dd_LW_law_621 : decode cd_LW_law 621 = .ok (.invokevirtual 103, 3) := by decide +kernel
theorem dd_LW_law_624 : decode cd_LW_law 624 = .ok (.istore 6, 2) := by decide +kernel
theorem dd_LW_law_626 : decode cd_LW_law 626 = .ok (.aload_n 2, 1) := by decide +kernel
theorem dd_LW_law_627 : decode cd_LW_law 627 = .ok (.invokevirtual 67, 3) := by decide +kernel
theorem dd_LW_law_630 : decode cd_LW_law 630 = .ok (.iload 5, 2) := by decide +kernel
theorem dd_LW_law_632 : decode cd_LW_law 632 = .ok (.if_icmp .eq 5, 3) := by decide +kernel
theorem dd_LW_law_637 : decode cd_LW_law 637 = .ok (.iload 5, 2) := by decide +kernel
theorem dd_LW_law_639 : decode cd_LW_law 639 = .ok (.ifCond .ne 15, 3) := by decide +kernel
theorem dd_LW_law_654 : decode cd_LW_law 654 = .ok (.goto 115, 3) := by decide +kernel
theorem dd_LW_law_657 : decode cd_LW_law 657 = .ok (.aload_n 1, 1) := by decide +kernel
theorem dd_LW_law_658 : decode cd_LW_law 658 = .ok (.aload_n 0, 1) := by decide +kernel
theorem dd_LW_law_659 : decode cd_LW_law 659 = .ok (.iload 4, 2) := by decide +kernel
theorem dd_LW_law_661 : decode cd_LW_law 661 = .ok (.iconst 1, 1) := by decide +kernel
theorem dd_LW_law_662 : decode cd_LW_law 662 = .ok (.iadd, 1) := by decide +kernel
theorem dd_LW_law_663 : decode cd_LW_law 663 = .ok (.iaload, 1) := by decide +kernel
theorem dd_LW_law_664 : decode cd_LW_law 664 = .ok (.aload_n 3, 1) := by decide +kernel
theorem dd_LW_law_665 : decode cd_LW_law 665 = .ok (.invokestatic 104, 3) := by decide +kernel
theorem dd_LW_law_668 : decode cd_LW_law 668 = .ok (.istore 5, 2) := by decide +kernel
theorem dd_LW_law_670 : decode cd_LW_law 670 = .ok (.aload_n 2, 1) := by decide +kernel
theorem dd_LW_law_671 : decode cd_LW_law 671 = .ok (.aload_n 0, 1) := by decide +kernel
theorem dd_LW_law_672 : decode cd_LW_law 672 = .ok (.iload 4, 2) := by decide +kernel
theorem dd_LW_law_674 : decode cd_LW_law 674 = .ok (.iconst 1, 1) := by decide +kernel
theorem dd_LW_law_675 : decode cd_LW_law 675 = .ok (.iadd, 1) := by decide +kernel
theorem dd_LW_law_676 : decode cd_LW_law 676 = .ok (.iaload, 1) := by decide +kernel
theorem dd_LW_law_677 : decode cd_LW_law 677 = .ok (.invokevirtual 106, 3) := by decide +kernel
theorem dd_LW_law_680 : decode cd_LW_law 680 = .ok (.istore 6, 2) := by decide +kernel
theorem dd_LW_law_682 : decode cd_LW_law 682 = .ok (.aload_n 2, 1) := by decide +kernel
theorem dd_LW_law_683 : decode cd_LW_law 683 = .ok (.invokevirtual 67, 3) := by decide +kernel
theorem dd_LW_law_686 : decode cd_LW_law 686 = .ok (.iload 5, 2) := by decide +kernel
theorem dd_LW_law_688 : decode cd_LW_law 688 = .ok (.if_icmp .eq 5, 3) := by decide +kernel
theorem dd_LW_law_693 : decode cd_LW_law 693 = .ok (.iload 5, 2) := by decide +kernel
theorem dd_LW_law_695 : decode cd_LW_law 695 = .ok (.ifCond .ne 15, 3) := by decide +kernel
theorem dd_LW_law_698 : decode cd_LW_law 698 = .ok (.aload_n 3, 1) := by decide +kernel
theorem dd_LW_law_699 : decode cd_LW_law 699 = .ok (.iconst 0, 1) := by decide +kernel
theorem dd_LW_law_700 : decode cd_LW_law 700 = .ok (.laload, 1) := by decide +kernel
theorem dd_LW_law_701 : decode cd_LW_law 701 = .ok (.iload 6, 2) := by decide +kernel
theorem dd_LW_law_703 : decode cd_LW_law 703 = .ok (.i2l, 1) := by decide +kernel
theorem dd_LW_law_704 : decode cd_LW_law 704 = .ok (.lcmp, 1) := by decide +kernel
theorem dd_LW_law_705 : decode cd_LW_law 705 = .ok (.ifCond .eq 5, 3) := by decide +kernel
theorem dd_LW_law_710 : decode cd_LW_law 710 = .ok (.goto 59, 3) := by decide +kernel
theorem dd_LW_law_713 : decode cd_LW_law 713 = .ok (.aload_n 1, 1) := by decide +kernel
theorem dd_LW_law_714 : decode cd_LW_law 714 = .ok (.aload_n 0, 1) := by decide +kernel
theorem dd_LW_law_715 : decode cd_LW_law 715 = .ok (.iload 4, 2) := by decide +kernel
theorem dd_LW_law_717 : decode cd_LW_law 717 = .ok (.iconst 1, 1) := by decide +kernel
theorem dd_LW_law_718 : decode cd_LW_law 718 = .ok (.iadd, 1) := by decide +kernel
theorem dd_LW_law_719 : decode cd_LW_law 719 = .ok (.iaload, 1) := by decide +kernel
theorem dd_LW_law_720 : decode cd_LW_law 720 = .ok (.aload_n 3, 1) := by decide +kernel
theorem dd_LW_law_721 : decode cd_LW_law 721 = .ok (.invokestatic 107, 3) := by decide +kernel
theorem dd_LW_law_724 : decode cd_LW_law 724 = .ok (.istore 5, 2) := by decide +kernel
theorem dd_LW_law_726 : decode cd_LW_law 726 = .ok (.aload_n 2, 1) := by decide +kernel
theorem dd_LW_law_727 : decode cd_LW_law 727 = .ok (.aload_n 0, 1) := by decide +kernel
theorem dd_LW_law_728 : decode cd_LW_law 728 = .ok (.iload 4, 2) := by decide +kernel
theorem dd_LW_law_730 : decode cd_LW_law 730 = .ok (.iconst 1, 1) := by decide +kernel
theorem dd_LW_law_731 : decode cd_LW_law 731 = .ok (.iadd, 1) := by decide +kernel
theorem dd_LW_law_732 : decode cd_LW_law 732 = .ok (.iaload, 1) := by decide +kernel
theorem dd_LW_law_733 : decode cd_LW_law 733 = .ok (.invokevirtual 109, 3) := by decide +kernel
theorem dd_LW_law_736 : decode cd_LW_law 736 = .ok (.istore 6, 2) := by decide +kernel
theorem dd_LW_law_738 : decode cd_LW_law 738 = .ok (.aload_n 2, 1) := by decide +kernel
theorem dd_LW_law_739 : decode cd_LW_law 739 = .ok (.invokevirtual 67, 3) := by decide +kernel
theorem dd_LW_law_742 : decode cd_LW_law 742 = .ok (.iload 5, 2) := by decide +kernel
theorem dd_LW_law_744 : decode cd_LW_law 744 = .ok (.if_icmp .eq 5, 3) := by decide +kernel
theorem dd_LW_law_749 : decode cd_LW_law 749 = .ok (.iload 5, 2) := by decide +kernel
theorem dd_LW_law_751 : decode cd_LW_law 751 = .ok (.ifCond .ne 15, 3) := by decide +kernel
theorem dd_LW_law_754 : decode cd_LW_law 754 = .ok (.aload_n 3, 1) := by decide +kernel
theorem dd_LW_law_755 : decode cd_LW_law 755 = .ok (.iconst 0, 1) := by decide +kernel
theorem dd_LW_law_756 : decode cd_LW_law 756 = .ok (.laload, 1) := by decide +kernel
theorem dd_LW_law_757 : decode cd_LW_law 757 = .ok (.iload 6, 2) := by decide +kernel
theorem dd_LW_law_759 : decode cd_LW_law 759 = .ok (.i2l, 1) := by decide +kernel
theorem dd_LW_law_760 : decode cd_LW_law 760 = .ok (.lcmp, 1) := by decide +kernel
theorem dd_LW_law_761 : decode cd_LW_law 761 = .ok (.ifCond .eq 5, 3) := by decide +kernel
theorem dd_LW_law_766 : decode cd_LW_law 766 = .ok (.goto 3, 3) := by decide +kernel
theorem dd_LW_law_769 : decode cd_LW_law 769 = .ok (.iinc 4 6, 3) := by decide +kernel
theorem dd_LW_law_772 : decode cd_LW_law 772 = .ok (.goto (-749), 3) := by decide +kernel
theorem dd_LW_law_775 : decode cd_LW_law 775 = .ok (.iconst 1, 1) := by decide +kernel
theorem dd_LW_law_776 : decode cd_LW_law 776 = .ok (.ireturn, 1) := by decide +kernel
end
section
-- what a method's start holds beside its cells: statics that nobody writes, a private link
/-- what 'laysStatic' says, of a cell that isn't in A -/
def xs_L (C n d : String) (A : Nat → Prop) (U : State) (H : Heap) : Prop := ∃ (c : ClassId) (k : Class) (i : Nat) (f : Field) (a : Nat) (cell : Cell), U.vm.findClass C = some c ∧ U.fieldFound? C n d = some (c, k, i, f) ∧ f.isStatic = true ∧ k.statics = some a ∧ H[a]? = some cell ∧ cell.vm.isStatics = true ∧ cell.cls = c ∧ f.slot < cell.slots.size ∧ k.staticTypes[f.slot]? = some f.type ∧ ¬ A a
theorem xs_L.moved {C n d : String} {A : Nat → Prop} {u U : State} {H : Heap} (hvm : u.vm.Alike U.vm) (h : xs_L C n d A u H) : xs_L C n d A U H := by
  obtain ⟨c, k, i, f, a, cell, h1, h2, h3, h4, h5, h6, h7, h8, h9, h10⟩ := h
  obtain ⟨k', hi', he⟩ := State.fieldFound?_setVm hvm h2
  exact ⟨c, k', i, f, a, cell, by rw [hvm.findClass]; exact h1, hi', h3, by rw [he]; exact h4, h5, h6, h7, h8, by rw [he]; exact h9, h10⟩
theorem xs_L.kept {C n d : String} {A : Nat → Prop} {U : State} {H H1 : Heap} (h : xs_L C n d A U H) (hq : ∀ a : Nat, a < H.size → ¬ A a → H1[a]? = H[a]?) : xs_L C n d A U H1 := by
  obtain ⟨c, k, i, f, a, cell, h1, h2, h3, h4, h5, h6, h7, h8, h9, h10⟩ := h
  exact ⟨c, k, i, f, a, cell, h1, h2, h3, h4, by rw [hq a (Array.getElem?_eq_some_iff.mp h5).1 h10]; exact h5, h6, h7, h8, h9, h10⟩
theorem xs_L.narrow {C n d : String} {A B : Nat → Prop} {U : State} {H : Heap} (h : xs_L C n d A U H) (hAB : ∀ q, B q → A q) : xs_L C n d B U H := by
  obtain ⟨c, k, i, f, a, cell, h1, h2, h3, h4, h5, h6, h7, h8, h9, h10⟩ := h
  exact ⟨c, k, i, f, a, cell, h1, h2, h3, h4, h5, h6, h7, h8, h9, fun z => h10 (hAB a z)⟩
theorem xs_L.of {C n d : String} {A : Nat → Prop} {args : Array Value} {s : State} (h : (Cond.laysStatic C n d).before args s = true) (hA : ∀ a : Nat, a < s.heap.size → ¬ A a) : xs_L C n d A s s.heap := by
  obtain ⟨c, k, i, f, a, cell, h1, h2, h3, h4, h5, h6, h7, h8, h9⟩ := Cond.laysStatic_spec h
  exact ⟨c, k, i, f, a, cell, h1, h2, h3, h4, h5, h6, h7, h8, h9, hA a (Array.getElem?_eq_some_iff.mp h5).1⟩
theorem xs_L.use {C n d : String} {A : Nat → Prop} {args : Array Value} {s : State} (h : xs_L C n d A s s.heap) : (Cond.laysStatic C n d).before args s = true := by
  obtain ⟨c, k, i, f, a, cell, h1, h2, h3, h4, h5, h6, h7, h8, h9, -⟩ := h
  simp [Cond.before, Cond.holds, Cond.value, h1, h2, h3, h4, h5, h6, h7, h8, h9]
def xs_C (C : String) (U : State) : Prop := ∃ c : ClassId, U.vm.findClass C = some c ∧ U.vm.assignable c c = true
theorem xs_C.moved {C : String} {u U : State} (hvm : u.vm.Alike U.vm) (h : xs_C C u) : xs_C C U := by
  obtain ⟨c, h1, h2⟩ := h
  exact ⟨c, by rw [hvm.findClass]; exact h1, by rw [hvm.assignable]; exact h2⟩
theorem xs_C.of {C : String} {args : Array Value} {s : State} (h : (Cond.castable C C).before args s = true) : xs_C C s := by
  obtain ⟨c, t, h1, h2, h3⟩ := Cond.castable_spec h
  cases h1.symm.trans h2
  exact ⟨c, h1, h3⟩
theorem xs_C.use {C : String} {args : Array Value} {s : State} (h : xs_C C s) : (Cond.castable C C).before args s = true := by
  obtain ⟨c, h1, h2⟩ := h
  simp [Cond.before, Cond.holds, Cond.value, h1, h2]
def xe_ds : List MethodName := [⟨"java/lang/RuntimeException", "<init>", "()V"⟩, ⟨"java/lang/Exception", "<init>", "()V"⟩, ⟨"java/lang/Throwable", "<init>", "()V"⟩]
def xe_cs : List String := ["java/lang/UnsupportedOperationException", "java/lang/IllegalArgumentException", "java/lang/IndexOutOfBoundsException", "java/lang/IllegalStateException"]
def xe_E (A : Nat → Prop) (U : State) (H : Heap) : Prop :=
  va_Zq "java/lang/Throwable" "UNASSIGNED_STACK" "[Ljava/lang/StackTraceElement;" A U H ∧ va_Zq "java/lang/Throwable" "SUPPRESSED_SENTINEL" "Ljava/util/List;" A U H ∧ va_Zq "StackedRows$Letters" "CAPITALS" "LStackedRows$Letters;" A U H ∧ va_Nw xn_neg U ∧ va_Nc "java/lang/UnsupportedOperationException" "java/lang/IllegalArgumentException" U ∧ xs_L "java/lang/Throwable" "UNASSIGNED_STACK" "[Ljava/lang/StackTraceElement;" A U H ∧ xs_L "java/lang/Throwable" "SUPPRESSED_SENTINEL" "Ljava/util/List;" A U H ∧ (∀ x ∈ xe_ds, va_Nw (.declares x) U) ∧ ∀ C ∈ xe_cs, xs_C C U
theorem xe_go {A B : Nat → Prop} {s U : State} {H : Heap} {locs : List Loc} (h : xe_E A s s.heap) (hS : va_S A s.heap H locs) (hBA : ∀ q, B q → A q) (hU : U.heap = H) (hW : s.WarmedH U.vm) : xe_E B U U.heap := by
  obtain ⟨h1, h2, h3, h4, h5, h6, h7, h8, h9⟩ := h
  rw [hU]
  exact ⟨((h1.kept hS.2.1).narrow hBA).moved hW.alike, ((h2.kept hS.2.1).narrow hBA).moved hW.alike, ((h3.kept hS.2.1).narrow hBA).moved hW.alike, va_Nw.warmM hW h4, h5.moved hW.alike, ((h6.kept hS.2.1).narrow hBA).moved hW.alike, ((h7.kept hS.2.1).narrow hBA).moved hW.alike, fun x hx => va_Nw.warmD hW (h8 x hx), fun C hC => (h9 C hC).moved hW.alike⟩
theorem xe_call {A : Nat → Prop} {U : State} {g : JFrame} {mk : MethodId} {a : Array Value} (h : xe_E A U U.heap) : xe_E A (U.calling g mk a) (U.calling g mk a).heap := by
  obtain ⟨h1, h2, h3, h4, h5, h6, h7, h8, h9⟩ := h
  exact ⟨h1.moved (u := U) (U := U.calling g mk a) (Vm.Alike.refl U.vm), h2.moved (u := U) (U := U.calling g mk a) (Vm.Alike.refl U.vm), h3.moved (u := U) (U := U.calling g mk a) (Vm.Alike.refl U.vm), va_Nw.same (U := U.calling g mk a) rfl rfl h4, h5.moved (u := U) (U := U.calling g mk a) (Vm.Alike.refl U.vm), h6.moved (u := U) (U := U.calling g mk a) (Vm.Alike.refl U.vm), h7.moved (u := U) (U := U.calling g mk a) (Vm.Alike.refl U.vm), fun x hx => va_Nw.same (U := U.calling g mk a) rfl rfl (h8 x hx), fun C hC => (h9 C hC).moved (u := U) (U := U.calling g mk a) (Vm.Alike.refl U.vm)⟩
-- contracts of one form
def kc_P (g : xg_G) (av : List Value) (ws : va_W) (sz : Nat) : Array Value → State → Prop := va_Pc av (fun U => U.heap.size = sz ∧ va_P g.1 vwCl ws U.heap ∧ va_K g.1 vwCl (xg_t g) U ∧ va_D (fun _ => True) ws ∧ xe_E (va_A ws sz) U U.heap)
def kc_B (g : xg_G) (A : Nat → Prop) {S : Type} (ws' : S → va_W) : S → State → Prop := fun u t => va_P g.1 vwCl (ws' u) t.heap ∧ va_D A (ws' u)
def kc_I (l : Launch) (y : MethodName) (b : ByteArray) (n : Nat) (rt : FieldType) (rm : Room) (g : xg_G) (av : List Value) (ws : va_W) {S : Type} (post : Int32 → S → Prop) (ws' : S → va_W) : Prop :=
  ∀ sz : Nat, Met l y (.code y b n (some rt) :: xt_T) rm (kc_P g av ws sz) (va_Qi post (kc_B g (va_A ws sz) ws') (va_A ws sz)) rm.cells rm.slots (va_A ws sz)
def kc_V (l : Launch) (y : MethodName) (b : ByteArray) (n : Nat) (rm : Room) (g : xg_G) (av : List Value) (ws : va_W) {S : Type} (post : S → Prop) (ws' : S → va_W) : Prop :=
  ∀ sz : Nat, Met l y (.code y b n none :: xt_T) rm (kc_P g av ws sz) (va_Qv post (kc_B g (va_A ws sz) ws') (va_A ws sz)) rm.cells rm.slots (va_A ws sz)
theorem kc_blind {g : xg_G} {av : List Value} {ws : va_W} {sz : Nat} : FrameBlind (kc_P g av ws sz) := by
  intro a U f mk q
  obtain ⟨q0, q1, qP, qK, qD, qE⟩ := q
  exact ⟨q0, q1, qP, va_K.moved (u := U) (U := U.calling f mk a) (Vm.Alike.refl U.vm) qK, qD, xe_call qE⟩
-- what a body may lean on
abbrev xb_B (g : xg_G) (y : MethodName) (b : ByteArray) (n : Nat) (ret : Option FieldType) (av : List Value) (ws : va_W) (p : Program) (s : State) (m : MethodId) (args : Array Value) (meth : Method) (c : Code) (A : Nat → Prop) (ls : Array Slot) : Prop :=
  p.tables.exec = Jvm.exec ∧ c.code = b ∧ meth.sig.returnType = ret ∧ meth.locks = false ∧ meth.name = y.name ∧ c.maxLocals = n ∧ s.vm.findClass y.cls = some m.cls ∧ (∀ w ∈ xt_T, w.before args s = true) ∧ (∀ q : Nat, s.heap.size ≤ q → A q) ∧ va_K g.1 vwCl (xg_t g) s ∧ va_D A ws ∧ xe_E A s s.heap ∧ lv_has ls n (lv_args 0 av)
theorem xw_mono {p : Program} {l : Launch} {e : Env} {R : Room} {s : State} {m : MethodId} {args : Array Value} {below : List Frame} {meth : Method} {c : Code} {H : Heap} {locs : List Loc} {cells slots : Nat} {Q Q' : State → Prop} {g : JFrame} (hQ : ∀ t, Q' t → Q t) (h : W p l e R s m args below meth c H locs cells slots Q' g) : W p l e R s m args below meth c H locs cells slots Q g := fun T hT X => by
  obtain ⟨t, h1, h2⟩ := h T hT X
  exact ⟨t, h1, hQ t h2⟩
theorem xb_get {l : Launch} {g : xg_G} {y : MethodName} {b : ByteArray} {n : Nat} {ret : Option FieldType} {av : List Value} {ws : va_W} {sz : Nat} {rm : Room} {w0 : Cond} (hal : (lg_sl av).length ≤ n)
    {p : Program} {e : Env} {s : State} {m : MethodId} {args : Array Value} {below : List Frame} {meth : Method} {c : Code} {s₁ : State} (B : BodyLoose p l y (headSpec (w0 :: xt_T) rm) b n ret e s m args below meth c s₁) (hml : c.maxLocals = n) (hv : kc_P g av ws sz args s) :
    ∃ ls : Array Slot, entryFrame m args n = F0 m 0 ls [] ∧ s.heap.size = sz ∧ va_P g.1 vwCl ws s.heap ∧ xb_B g y b n ret av ws p s m args meth c (va_A ws sz) ls := by
  obtain ⟨rfl, hsz, hP, hK, hD0, hE⟩ := hv
  have hts := atoms_spec (ws := w0 :: xt_T) B.pre
  exact ⟨_, lg_entry_eq m av n, hsz, hP, B.exec, B.bytes, B.returns, B.notSynchronized, (name_of_methodNamed B.named B.method).1, hml, findClass_of_methodNamed B.named, fun w h => hts w (List.mem_cons_of_mem _ h), fun q h => Or.inr (by rw [← hsz]; exact h), hK, hD0.self, hE, lv_entry av hal⟩
theorem kc_Iof {l : Launch} {y : MethodName} {b : ByteArray} {n : Nat} {rt : FieldType} {rm : Room} {g : xg_G} {av : List Value} {ws : va_W} {S : Type} {post : Int32 → S → Prop} {ws' : S → va_W} (hy : plainName y.cls = true) (hal : (lg_sl av).length ≤ n)
    (body : ∀ (p : Program) (e : Env) (s : State) (m : MethodId) (args : Array Value) (below : List Frame) (meth : Method) (c : Code) (A : Nat → Prop) (ls : Array Slot) (Q : State → Prop) (H : Heap) (locs : List Loc), (∀ t, MQ below (va_Qi post (kc_B g A ws') A) args s rm.cells rm.slots A t → Q t) → xb_B g y b n (some rt) av ws p s m args meth c A ls → va_P g.1 vwCl ws H → va_S A s.heap H locs → W p l e rm s m args below meth c H locs 0 0 Q (F0 m 0 ls [])) : kc_I l y b n rt rm g av ws post ws' := by
  intro sz
  refine Met.ofW (cc := b) (maxL := n) (ret := some rt) hy rfl ?_
  intro p e s m args below meth c s₁ B hml hv
  obtain ⟨ls, e1, -, hP, hB⟩ := xb_get hal B hml hv
  rw [e1]
  exact body p e s m args below meth c _ ls _ _ _ (fun _ h => h) hB hP va_S.rf
theorem kc_Vof {l : Launch} {y : MethodName} {b : ByteArray} {n : Nat} {rm : Room} {g : xg_G} {av : List Value} {ws : va_W} {S : Type} {post : S → Prop} {ws' : S → va_W} (hy : plainName y.cls = true) (hal : (lg_sl av).length ≤ n)
    (body : ∀ (p : Program) (e : Env) (s : State) (m : MethodId) (args : Array Value) (below : List Frame) (meth : Method) (c : Code) (A : Nat → Prop) (ls : Array Slot) (Q : State → Prop) (H : Heap) (locs : List Loc), (∀ t, MQ below (va_Qv post (kc_B g A ws') A) args s rm.cells rm.slots A t → Q t) → xb_B g y b n none av ws p s m args meth c A ls → va_P g.1 vwCl ws H → va_S A s.heap H locs → W p l e rm s m args below meth c H locs 0 0 Q (F0 m 0 ls [])) : kc_V l y b n rm g av ws post ws' := by
  intro sz
  refine Met.ofW (cc := b) (maxL := n) (ret := none) hy rfl ?_
  intro p e s m args below meth c s₁ B hml hv
  obtain ⟨ls, e1, -, hP, hB⟩ := xb_get hal B hml hv
  rw [e1]
  exact body p e s m args below meth c _ ls _ _ _ (fun _ h => h) hB hP va_S.rf
theorem xs_fm {α β : Type} {is : List α} {f : α → Option β} {l : List β} (h : is.map f = l.map some) : is.filterMap f = l := by
  induction is generalizing l with
  | nil => cases l with
    | nil => rfl
    | cons a t => simp at h
  | cons i t ih =>
    cases l with
    | nil => simp at h
    | cons a u =>
      simp only [List.map_cons, List.cons.injEq] at h
      rw [List.filterMap_cons, h.1]
      simp only [ih h.2]
section XR
variable {p : Program} {l : Launch} {e : Env} {R : Room} {s : State} {m : MethodId} {args : Array Value} {below : List Frame} {meth : Method} {c : Code} {H : Heap} {locs : List Loc} {cells slots : Nat} {Q : State → Prop}
variable {cc : ByteArray} {pc : Nat} {ls : Array Slot} {rest : List Value} {g : xg_G} {A : Nat → Prop} {a : Nat} {ws : va_W} {S : Type} {ws' : S → va_W} {mc ms : Nat}
-- ends
theorem xr_i {post : Int32 → S → Prop} {r : Int32} {rt : FieldType} (hx : p.tables.exec = Jvm.exec) (hb : c.code = cc) (hr : meth.sig.returnType = some rt) (hlocks : meth.locks = false) (hQ : ∀ t, MQ below (va_Qi post (kc_B g A ws') A) args s mc ms A t → Q t) (hP : va_P g.1 vwCl ws H) (hD : va_D A ws) (hS : va_S A s.heap H locs) (u : S) (hp : post r u) (is : List Nat) (hnd : va_nd is = true) (hs : is.map (fun i => ws[i]?) = (ws' u).map some) (hn : narrow rt (.int r) = .int r) (hc : cells ≤ mc) (hm : slots ≤ ms) (hdg : decode cc pc = .ok (.ireturn, 1)) :
    W p l e R s m args below meth c H locs cells slots Q (F0 m pc ls [.int r]) := by
  refine xw_mono hQ ?_
  refine W.widen (k := mc) (n := ms) hc hm ?_
  exact W.zret hx hb hr hn (fun t ht hW => ⟨⟨r, u, rfl, hp, by rw [ht]; exact hP.sub is (xs_fm hs), hD.sub is hnd hs⟩, hS.F ht⟩) hS.2.2 hdg hlocks
theorem xr_v {post : S → Prop} (hx : p.tables.exec = Jvm.exec) (hb : c.code = cc) (hr : meth.sig.returnType = none) (hlocks : meth.locks = false) (hQ : ∀ t, MQ below (va_Qv post (kc_B g A ws') A) args s mc ms A t → Q t) (hP : va_P g.1 vwCl ws H) (hD : va_D A ws) (hS : va_S A s.heap H locs) (u : S) (hp : post u) (is : List Nat) (hnd : va_nd is = true) (hs : is.map (fun i => ws[i]?) = (ws' u).map some) (hc : cells ≤ mc) (hm : slots ≤ ms) (hdg : decode cc pc = .ok (.return_, 1)) :
    W p l e R s m args below meth c H locs cells slots Q (F0 m pc ls []) := by
  refine xw_mono hQ ?_
  refine W.widen (k := mc) (n := ms) hc hm ?_
  exact W.vret hx hb hr (fun t ht hW => ⟨⟨u, rfl, hp, by rw [ht]; exact hP.sub is (xs_fm hs), hD.sub is hnd hs⟩, hS.F ht⟩) hS.2.2 hdg hlocks
-- the value on top by another name
theorem xi_eq {x v : Int32} (h : x = v) (k : W p l e R s m args below meth c H locs cells slots Q (F0 m pc ls (.int v :: rest))) : W p l e R s m args below meth c H locs cells slots Q (F0 m pc ls (.int x :: rest)) := by rw [h]; exact k
-- numbers that are naturals
theorem xi_iadd (hx : p.tables.exec = Jvm.exec) (hb : c.code = cc) {x y : Nat} (hdg : decode cc pc = .ok (.iadd, 1)) (k : W p l e R s m args below meth c H locs cells slots Q (F0 m (pc + 1) ls (.int (nI (x + y)) :: rest))) : W p l e R s m args below meth c H locs cells slots Q (F0 m pc ls (.int (nI y) :: .int (nI x) :: rest)) :=
  lv_iadd hx hb hdg (xi_eq (nI_add x y) k)
theorem xi_isub (hx : p.tables.exec = Jvm.exec) (hb : c.code = cc) {x y : Nat} (h : y ≤ x) (hdg : decode cc pc = .ok (.isub, 1)) (k : W p l e R s m args below meth c H locs cells slots Q (F0 m (pc + 1) ls (.int (nI (x - y)) :: rest))) : W p l e R s m args below meth c H locs cells slots Q (F0 m pc ls (.int (nI y) :: .int (nI x) :: rest)) :=
  lv_isub hx hb hdg (xi_eq (pk_sub h) k)
theorem xi_imul (hx : p.tables.exec = Jvm.exec) (hb : c.code = cc) {x y : Nat} (hdg : decode cc pc = .ok (.imul, 1)) (k : W p l e R s m args below meth c H locs cells slots Q (F0 m (pc + 1) ls (.int (nI (x * y)) :: rest))) : W p l e R s m args below meth c H locs cells slots Q (F0 m pc ls (.int (nI y) :: .int (nI x) :: rest)) :=
  lv_imul hx hb hdg (xi_eq (pk_mul x y) k)
theorem xi_idiv (hx : p.tables.exec = Jvm.exec) (hb : c.code = cc) {x y : Nat} (h : x < 2 ^ 31) (h0 : 0 < y) (hy : y < 2 ^ 31) (hdg : decode cc pc = .ok (.idiv, 1)) (k : W p l e R s m args below meth c H locs cells slots Q (F0 m (pc + 1) ls (.int (nI (x / y)) :: rest))) : W p l e R s m args below meth c H locs cells slots Q (F0 m pc ls (.int (nI y) :: .int (nI x) :: rest)) :=
  lv_idiv hx hb hdg (nI_ne0 h0 hy) (xi_eq (pk_div h h0 hy) k)
theorem xi_irem (hx : p.tables.exec = Jvm.exec) (hb : c.code = cc) {x y : Nat} (h : x < 2 ^ 31) (h0 : 0 < y) (hy : y < 2 ^ 31) (hdg : decode cc pc = .ok (.irem, 1)) (k : W p l e R s m args below meth c H locs cells slots Q (F0 m (pc + 1) ls (.int (nI (x % y)) :: rest))) : W p l e R s m args below meth c H locs cells slots Q (F0 m pc ls (.int (nI y) :: .int (nI x) :: rest)) :=
  lv_irem hx hb hdg (nI_ne0 h0 hy) (xi_eq (pk_rem h h0 hy) k)
theorem xi_remR (hx : p.tables.exec = Jvm.exec) (hb : c.code = cc) {x y : Int32} (h0 : ¬ y = 0) (hdg : decode cc pc = .ok (.irem, 1)) (k : ∀ z : Int32, W p l e R s m args below meth c H locs cells slots Q (F0 m (pc + 1) ls (.int z :: rest))) : W p l e R s m args below meth c H locs cells slots Q (F0 m pc ls (.int y :: .int x :: rest)) :=
  lv_irem hx hb hdg h0 (k _)
theorem xi_inc (x : Nat) : nI x + Int32.ofInt 1 = nI (x + 1) := nI_1 x
theorem xi_dec {x : Nat} (h : 0 < x) : nI x + Int32.ofInt (-1) = nI (x - 1) := sb_m1 h
-- branches on naturals
theorem xb_lt (hx : p.tables.exec = Jvm.exec) (hb : c.code = cc) {x y : Nat} (hx1 : x < 2 ^ 31) (hy1 : y < 2 ^ 31) {off : Int} {tgt : Nat} (hdg : decode cc pc = .ok (.if_icmp .lt off, 3)) (ht : (pc : Int) + off = (tgt : Int)) (kt : x < y → W p l e R s m args below meth c H locs cells slots Q (F0 m tgt ls rest)) (kf : y ≤ x → W p l e R s m args below meth c H locs cells slots Q (F0 m (pc + 3) ls rest)) : W p l e R s m args below meth c H locs cells slots Q (F0 m pc ls (.int (nI y) :: .int (nI x) :: rest)) :=
  lv_icmp_lt hx hb hdg ht (fun h => kt ((nI_ltI hx1 hy1).mp h)) (fun h => kf (Nat.not_lt.mp (fun h2 => h ((nI_ltI hx1 hy1).mpr h2))))
theorem xb_ge (hx : p.tables.exec = Jvm.exec) (hb : c.code = cc) {x y : Nat} (hx1 : x < 2 ^ 31) (hy1 : y < 2 ^ 31) {off : Int} {tgt : Nat} (hdg : decode cc pc = .ok (.if_icmp .ge off, 3)) (ht : (pc : Int) + off = (tgt : Int)) (kt : y ≤ x → W p l e R s m args below meth c H locs cells slots Q (F0 m tgt ls rest)) (kf : x < y → W p l e R s m args below meth c H locs cells slots Q (F0 m (pc + 3) ls rest)) : W p l e R s m args below meth c H locs cells slots Q (F0 m pc ls (.int (nI y) :: .int (nI x) :: rest)) :=
  lv_icmp_ge hx hb hdg ht (fun h => kt ((nI_leI hy1 hx1).mp h)) (fun h => kf (Nat.not_le.mp (fun h2 => h ((nI_leI hy1 hx1).mpr h2))))
theorem xb_gt (hx : p.tables.exec = Jvm.exec) (hb : c.code = cc) {x y : Nat} (hx1 : x < 2 ^ 31) (hy1 : y < 2 ^ 31) {off : Int} {tgt : Nat} (hdg : decode cc pc = .ok (.if_icmp .gt off, 3)) (ht : (pc : Int) + off = (tgt : Int)) (kt : y < x → W p l e R s m args below meth c H locs cells slots Q (F0 m tgt ls rest)) (kf : x ≤ y → W p l e R s m args below meth c H locs cells slots Q (F0 m (pc + 3) ls rest)) : W p l e R s m args below meth c H locs cells slots Q (F0 m pc ls (.int (nI y) :: .int (nI x) :: rest)) :=
  lv_icmp_gt hx hb hdg ht (fun h => kt ((nI_ltI hy1 hx1).mp h)) (fun h => kf (Nat.not_lt.mp (fun h2 => h ((nI_ltI hy1 hx1).mpr h2))))
theorem xb_le (hx : p.tables.exec = Jvm.exec) (hb : c.code = cc) {x y : Nat} (hx1 : x < 2 ^ 31) (hy1 : y < 2 ^ 31) {off : Int} {tgt : Nat} (hdg : decode cc pc = .ok (.if_icmp .le off, 3)) (ht : (pc : Int) + off = (tgt : Int)) (kt : x ≤ y → W p l e R s m args below meth c H locs cells slots Q (F0 m tgt ls rest)) (kf : y < x → W p l e R s m args below meth c H locs cells slots Q (F0 m (pc + 3) ls rest)) : W p l e R s m args below meth c H locs cells slots Q (F0 m pc ls (.int (nI y) :: .int (nI x) :: rest)) :=
  lv_icmp_le hx hb hdg ht (fun h => kt ((nI_leI hx1 hy1).mp h)) (fun h => kf (Nat.not_le.mp (fun h2 => h ((nI_leI hx1 hy1).mpr h2))))
theorem xb_eq (hx : p.tables.exec = Jvm.exec) (hb : c.code = cc) {x y : Nat} (hx1 : x < 2 ^ 31) (hy1 : y < 2 ^ 31) {off : Int} {tgt : Nat} (hdg : decode cc pc = .ok (.if_icmp .eq off, 3)) (ht : (pc : Int) + off = (tgt : Int)) (kt : x = y → W p l e R s m args below meth c H locs cells slots Q (F0 m tgt ls rest)) (kf : x ≠ y → W p l e R s m args below meth c H locs cells slots Q (F0 m (pc + 3) ls rest)) : W p l e R s m args below meth c H locs cells slots Q (F0 m pc ls (.int (nI y) :: .int (nI x) :: rest)) :=
  lv_icmp_eq hx hb hdg ht (fun h => kt ((nI_eq hx1 hy1).mp h)) (fun h => kf (fun h2 => h ((nI_eq hx1 hy1).mpr h2)))
theorem xb_ne (hx : p.tables.exec = Jvm.exec) (hb : c.code = cc) {x y : Nat} (hx1 : x < 2 ^ 31) (hy1 : y < 2 ^ 31) {off : Int} {tgt : Nat} (hdg : decode cc pc = .ok (.if_icmp .ne off, 3)) (ht : (pc : Int) + off = (tgt : Int)) (kt : x ≠ y → W p l e R s m args below meth c H locs cells slots Q (F0 m tgt ls rest)) (kf : x = y → W p l e R s m args below meth c H locs cells slots Q (F0 m (pc + 3) ls rest)) : W p l e R s m args below meth c H locs cells slots Q (F0 m pc ls (.int (nI y) :: .int (nI x) :: rest)) :=
  lv_icmp_ne hx hb hdg ht (fun h => kt (fun h2 => h (by rw [h2]))) (fun h => kf ((nI_eq hx1 hy1).mp h))
-- a branch against 0, of a natural
theorem xb_zle (hx : p.tables.exec = Jvm.exec) (hb : c.code = cc) {x : Nat} (hx1 : x < 2 ^ 31) {off : Int} {tgt : Nat} (hdg : decode cc pc = .ok (.ifCond .le off, 3)) (ht : (pc : Int) + off = (tgt : Int)) (kt : x = 0 → W p l e R s m args below meth c H locs cells slots Q (F0 m tgt ls rest)) (kf : 0 < x → W p l e R s m args below meth c H locs cells slots Q (F0 m (pc + 3) ls rest)) : W p l e R s m args below meth c H locs cells slots Q (F0 m pc ls (.int (nI x) :: rest)) := by
  rcases Nat.eq_zero_or_pos x with h | h
  · subst h
    exact lv_if_le hx hb hdg ht (fun _ => kt rfl) (fun h => absurd (by rw [nI_0]; exact Int32.le_refl 0) h)
  · exact lv_if_le hx hb hdg ht (fun h2 => absurd h2 (nI_nle h hx1)) (fun _ => kf h)
theorem xb_zge (hx : p.tables.exec = Jvm.exec) (hb : c.code = cc) {x : Nat} (hx1 : x < 2 ^ 31) {off : Int} {tgt : Nat} (hdg : decode cc pc = .ok (.ifCond .ge off, 3)) (ht : (pc : Int) + off = (tgt : Int)) (kt : W p l e R s m args below meth c H locs cells slots Q (F0 m tgt ls rest)) : W p l e R s m args below meth c H locs cells slots Q (F0 m pc ls (.int (nI x) :: rest)) :=
  lv_if_ge hx hb hdg ht (fun _ => kt) (fun h => absurd (nI_pos' hx1) h)
theorem xb_zlt (hx : p.tables.exec = Jvm.exec) (hb : c.code = cc) {x : Nat} (hx1 : x < 2 ^ 31) {off : Int} {tgt : Nat} (hdg : decode cc pc = .ok (.ifCond .lt off, 3)) (ht : (pc : Int) + off = (tgt : Int)) (kf : W p l e R s m args below meth c H locs cells slots Q (F0 m (pc + 3) ls rest)) : W p l e R s m args below meth c H locs cells slots Q (F0 m pc ls (.int (nI x) :: rest)) :=
  lv_if_lt hx hb hdg ht (fun h => absurd h (nI_pos hx1)) (fun _ => kf)
theorem xb_zne (hx : p.tables.exec = Jvm.exec) (hb : c.code = cc) {x : Nat} (hx1 : x < 2 ^ 31) {off : Int} {tgt : Nat} (hdg : decode cc pc = .ok (.ifCond .ne off, 3)) (ht : (pc : Int) + off = (tgt : Int)) (kt : 0 < x → W p l e R s m args below meth c H locs cells slots Q (F0 m tgt ls rest)) (kf : x = 0 → W p l e R s m args below meth c H locs cells slots Q (F0 m (pc + 3) ls rest)) : W p l e R s m args below meth c H locs cells slots Q (F0 m pc ls (.int (nI x) :: rest)) := by
  rcases Nat.eq_zero_or_pos x with h | h
  · subst h
    exact lv_if_ne hx hb hdg ht (fun h => absurd nI_0 h) (fun _ => kf rfl)
  · exact lv_if_ne hx hb hdg ht (fun _ => kt h) (fun h2 => absurd h2 (nI_ne0 h hx1))
theorem xb_zeq (hx : p.tables.exec = Jvm.exec) (hb : c.code = cc) {x : Nat} (hx1 : x < 2 ^ 31) {off : Int} {tgt : Nat} (hdg : decode cc pc = .ok (.ifCond .eq off, 3)) (ht : (pc : Int) + off = (tgt : Int)) (kt : x = 0 → W p l e R s m args below meth c H locs cells slots Q (F0 m tgt ls rest)) (kf : 0 < x → W p l e R s m args below meth c H locs cells slots Q (F0 m (pc + 3) ls rest)) : W p l e R s m args below meth c H locs cells slots Q (F0 m pc ls (.int (nI x) :: rest)) := by
  rcases Nat.eq_zero_or_pos x with h | h
  · subst h
    exact lv_if_eq hx hb hdg ht (fun _ => kt rfl) (fun h => absurd nI_0 h)
  · exact lv_if_eq hx hb hdg ht (fun h2 => absurd h2 (nI_ne0 h hx1)) (fun _ => kf h)
theorem xb_zgt (hx : p.tables.exec = Jvm.exec) (hb : c.code = cc) {x : Nat} (hx1 : x < 2 ^ 31) {off : Int} {tgt : Nat} (hdg : decode cc pc = .ok (.ifCond .gt off, 3)) (ht : (pc : Int) + off = (tgt : Int)) (kt : 0 < x → W p l e R s m args below meth c H locs cells slots Q (F0 m tgt ls rest)) (kf : x = 0 → W p l e R s m args below meth c H locs cells slots Q (F0 m (pc + 3) ls rest)) : W p l e R s m args below meth c H locs cells slots Q (F0 m pc ls (.int (nI x) :: rest)) := by
  rcases Nat.eq_zero_or_pos x with h | h
  · subst h
    exact lv_if_gt hx hb hdg ht (fun h => absurd h (by rw [nI_0]; decide)) (fun _ => kf rfl)
  · exact lv_if_gt hx hb hdg ht (fun _ => kt h) (fun h2 => absurd (Int32.not_le.mp (nI_nle h hx1)) h2)
-- branches of any int against a natural, or against 0: said of the integers
theorem xb_rlt (hx : p.tables.exec = Jvm.exec) (hb : c.code = cc) {x : Int32} {k : Nat} (hk : k < 2 ^ 31) {off : Int} {tgt : Nat} (hdg : decode cc pc = .ok (.if_icmp .lt off, 3)) (ht : (pc : Int) + off = (tgt : Int)) (kt : x.toInt < (k : Int) → W p l e R s m args below meth c H locs cells slots Q (F0 m tgt ls rest)) (kf : (k : Int) ≤ x.toInt → W p l e R s m args below meth c H locs cells slots Q (F0 m (pc + 3) ls rest)) : W p l e R s m args below meth c H locs cells slots Q (F0 m pc ls (.int (nI k) :: .int x :: rest)) :=
  lv_icmp_lt hx hb hdg ht (fun h => kt (by rw [← nI_toInt hk]; exact Int32.lt_iff_toInt_lt.mp h)) (fun h => kf (by rw [← nI_toInt hk]; exact Int32.le_iff_toInt_le.mp (Int32.not_lt.mp h)))
theorem xb_rle (hx : p.tables.exec = Jvm.exec) (hb : c.code = cc) {x : Int32} {k : Nat} (hk : k < 2 ^ 31) {off : Int} {tgt : Nat} (hdg : decode cc pc = .ok (.if_icmp .le off, 3)) (ht : (pc : Int) + off = (tgt : Int)) (kt : x.toInt ≤ (k : Int) → W p l e R s m args below meth c H locs cells slots Q (F0 m tgt ls rest)) (kf : (k : Int) < x.toInt → W p l e R s m args below meth c H locs cells slots Q (F0 m (pc + 3) ls rest)) : W p l e R s m args below meth c H locs cells slots Q (F0 m pc ls (.int (nI k) :: .int x :: rest)) :=
  lv_icmp_le hx hb hdg ht (fun h => kt (by rw [← nI_toInt hk]; exact Int32.le_iff_toInt_le.mp h)) (fun h => kf (by rw [← nI_toInt hk]; exact Int32.lt_iff_toInt_lt.mp (Int32.not_le.mp h)))
theorem xb_rgt (hx : p.tables.exec = Jvm.exec) (hb : c.code = cc) {x : Int32} {k : Nat} (hk : k < 2 ^ 31) {off : Int} {tgt : Nat} (hdg : decode cc pc = .ok (.if_icmp .gt off, 3)) (ht : (pc : Int) + off = (tgt : Int)) (kt : (k : Int) < x.toInt → W p l e R s m args below meth c H locs cells slots Q (F0 m tgt ls rest)) (kf : x.toInt ≤ (k : Int) → W p l e R s m args below meth c H locs cells slots Q (F0 m (pc + 3) ls rest)) : W p l e R s m args below meth c H locs cells slots Q (F0 m pc ls (.int (nI k) :: .int x :: rest)) :=
  lv_icmp_gt hx hb hdg ht (fun h => kt (by rw [← nI_toInt hk]; exact Int32.lt_iff_toInt_lt.mp h)) (fun h => kf (by rw [← nI_toInt hk]; exact Int32.le_iff_toInt_le.mp (Int32.not_lt.mp h)))
theorem xb_rge (hx : p.tables.exec = Jvm.exec) (hb : c.code = cc) {x : Int32} {k : Nat} (hk : k < 2 ^ 31) {off : Int} {tgt : Nat} (hdg : decode cc pc = .ok (.if_icmp .ge off, 3)) (ht : (pc : Int) + off = (tgt : Int)) (kt : (k : Int) ≤ x.toInt → W p l e R s m args below meth c H locs cells slots Q (F0 m tgt ls rest)) (kf : x.toInt < (k : Int) → W p l e R s m args below meth c H locs cells slots Q (F0 m (pc + 3) ls rest)) : W p l e R s m args below meth c H locs cells slots Q (F0 m pc ls (.int (nI k) :: .int x :: rest)) :=
  lv_icmp_ge hx hb hdg ht (fun h => kt (by rw [← nI_toInt hk]; exact Int32.le_iff_toInt_le.mp h)) (fun h => kf (by rw [← nI_toInt hk]; exact Int32.lt_iff_toInt_lt.mp (Int32.not_le.mp h)))
theorem xb_r0lt (hx : p.tables.exec = Jvm.exec) (hb : c.code = cc) {x : Int32} {off : Int} {tgt : Nat} (hdg : decode cc pc = .ok (.ifCond .lt off, 3)) (ht : (pc : Int) + off = (tgt : Int)) (kt : x.toInt < 0 → W p l e R s m args below meth c H locs cells slots Q (F0 m tgt ls rest)) (kf : 0 ≤ x.toInt → W p l e R s m args below meth c H locs cells slots Q (F0 m (pc + 3) ls rest)) : W p l e R s m args below meth c H locs cells slots Q (F0 m pc ls (.int x :: rest)) :=
  lv_if_lt hx hb hdg ht (fun h => kt (Int32.lt_iff_toInt_lt.mp h)) (fun h => kf (Int32.le_iff_toInt_le.mp (Int32.not_lt.mp h)))
theorem xb_r0ge (hx : p.tables.exec = Jvm.exec) (hb : c.code = cc) {x : Int32} {off : Int} {tgt : Nat} (hdg : decode cc pc = .ok (.ifCond .ge off, 3)) (ht : (pc : Int) + off = (tgt : Int)) (kt : 0 ≤ x.toInt → W p l e R s m args below meth c H locs cells slots Q (F0 m tgt ls rest)) (kf : x.toInt < 0 → W p l e R s m args below meth c H locs cells slots Q (F0 m (pc + 3) ls rest)) : W p l e R s m args below meth c H locs cells slots Q (F0 m pc ls (.int x :: rest)) :=
  lv_if_ge hx hb hdg ht (fun h => kt (Int32.le_iff_toInt_le.mp h)) (fun h => kf (Int32.lt_iff_toInt_lt.mp (Int32.not_le.mp h)))
-- arrays, by a natural index
theorem xa_ld (hx : p.tables.exec = Jvm.exec) (hb : c.code = cc) (hK : va_K g.1 vwCl (xg_t g) s) (hP : va_P g.1 vwCl ws H) (q0 : Nat) {n : Nat} {f : Nat → Int32} (ha : ws[q0]? = some (oc_i g a n f)) {j : Nat} (hj : j < n) (hn : n < 2 ^ 31) (hdg : decode cc pc = .ok (.iaload, 1)) (kk : W p l e R s m args below meth c H locs cells slots Q (F0 m (pc + 1) ls (.int (f j) :: rest))) : W p l e R s m args below meth c H locs cells slots Q (F0 m pc ls (.int (nI j) :: .ref a :: rest)) :=
  va_iald hx hb hK hP q0 0 ha rfl (vp_in_nI hj hn) hdg (by rw [nI_clamp (Nat.lt_trans hj hn)]; exact kk)
theorem xa_st (hx : p.tables.exec = Jvm.exec) (hb : c.code = cc) (hK : va_K g.1 vwCl (xg_t g) s) (hP : va_P g.1 vwCl ws H) (hD : va_D A ws) (hS : va_S A s.heap H locs) (q0 : Nat) {n : Nat} {f : Nat → Int32} (ha : ws[q0]? = some (oc_i g a n f)) {j : Nat} {x : Int32} (hj : j < n) (hn : n < 2 ^ 31) (hdg : decode cc pc = .ok (.iastore, 1)) (kk : ∀ (f1 : Nat → Int32) (H1 : Heap) (locs1 : List Loc), va_P g.1 vwCl (ws.set q0 (oc_i g a n f1)) H1 → va_D A (ws.set q0 (oc_i g a n f1)) → va_S A s.heap H1 locs1 → W p l e R s m args below meth c H1 locs1 cells slots Q (F0 m (pc + 1) ls rest)) : W p l e R s m args below meth c H locs cells slots Q (F0 m pc ls (.int x :: .int (nI j) :: .ref a :: rest)) :=
  va_iast hx hb hK hP hD hS q0 0 ha rfl (vp_in_nI hj hn) hdg (fun H1 locs1 h1 h2 h3 => kk _ H1 locs1 h1 h2 h3)
theorem xa_stL (hx : p.tables.exec = Jvm.exec) (hb : c.code = cc) (hK : va_K g.1 vwCl (xg_t g) s) (hP : va_P g.1 vwCl ws H) (hD : va_D A ws) (hS : va_S A s.heap H locs) (q0 : Nat) {n : Nat} {f : Nat → Int64} (ha : ws[q0]? = some (oc_l g a n f)) {j : Nat} {x : Int64} (hj : j < n) (hn : n < 2 ^ 31) (hdg : decode cc pc = .ok (.lastore, 1)) (kk : ∀ (f1 : Nat → Int64) (H1 : Heap) (locs1 : List Loc), f1 j = x → va_P g.1 vwCl (ws.set q0 (oc_l g a n f1)) H1 → va_D A (ws.set q0 (oc_l g a n f1)) → va_S A s.heap H1 locs1 → W p l e R s m args below meth c H1 locs1 cells slots Q (F0 m (pc + 1) ls rest)) : W p l e R s m args below meth c H locs cells slots Q (F0 m pc ls (.long x :: .int (nI j) :: .ref a :: rest)) :=
  va_last hx hb hK hP hD hS q0 1 ha rfl (vp_in_nI hj hn) hdg (fun H1 locs1 h1 h2 h3 => kk _ H1 locs1 (by rw [nI_clamp (Nat.lt_trans hj hn)]; simp [vp_updL]) h1 h2 h3)
theorem xa_ldL (hx : p.tables.exec = Jvm.exec) (hb : c.code = cc) (hK : va_K g.1 vwCl (xg_t g) s) (hP : va_P g.1 vwCl ws H) (q0 : Nat) {n : Nat} {f : Nat → Int64} (ha : ws[q0]? = some (oc_l g a n f)) {j : Nat} (hj : j < n) (hn : n < 2 ^ 31) (hdg : decode cc pc = .ok (.laload, 1)) (kk : W p l e R s m args below meth c H locs cells slots Q (F0 m (pc + 1) ls (.long (f j) :: rest))) : W p l e R s m args below meth c H locs cells slots Q (F0 m pc ls (.int (nI j) :: .ref a :: rest)) :=
  va_lald hx hb hK hP q0 1 ha rfl (vp_in_nI hj hn) hdg (by rw [nI_clamp (Nat.lt_trans hj hn)]; exact kk)
theorem xa_len (hx : p.tables.exec = Jvm.exec) (hb : c.code = cc) (hK : va_K g.1 vwCl (xg_t g) s) (hP : va_P g.1 vwCl ws H) (q0 : Nat) {n : Nat} {f : Nat → Int32} (ha : ws[q0]? = some (oc_i g a n f)) (hdg : decode cc pc = .ok (.arraylength, 1)) (kk : W p l e R s m args below meth c H locs cells slots Q (F0 m (pc + 1) ls (.int (nI n) :: rest))) : W p l e R s m args below meth c H locs cells slots Q (F0 m pc ls (.ref a :: rest)) :=
  va_alen hx hb hK hP q0 0 ha rfl rfl hdg kk
theorem xa_cls {cA : ClassId} {t0 : Nat} {ty : FieldType} {cB : ClassId} {tys : List (ClassId × FieldType)} (hK : va_K g.1 vwCl (tys ++ [(cA, ty)]) s) (hlen : tys.length = t0) (h1 : ∀ C, ty ≠ .object C) (h : va_RA s cB ty) : cA = cB := by
  have h2 := (hK.2 t0 (cA, ty) (by rw [← hlen]; simp)).2
  cases ty <;> first | exact Option.some.inj (h2.symm.trans h) | exact absurd rfl (h1 _)
theorem xa_newI (hx : p.tables.exec = Jvm.exec) (hb : c.code = cc) (harr : (Cond.arrayClass .int).before args s = true) (hK : va_K g.1 vwCl (xg_t g) s) (hP : va_P g.1 vwCl ws H) (hD : va_D A ws) (hS : va_S A s.heap H locs) (hA : ∀ q, s.heap.size ≤ q → A q) {n k1 k2 : Nat} (hn : n < 2 ^ 27) (hk1 : cells + 1 = k1) (hk2 : slots + n = k2) (hcells : k1 ≤ R.cells) (hslots : k2 ≤ R.slots) (hdg : decode cc pc = .ok (.newarray .int, 2))
    (kk : ∀ (q : Nat) (H1 : Heap), va_P g.1 vwCl (ws ++ [oc_i g q n (fun _ => 0)]) H1 → va_D A (ws ++ [oc_i g q n (fun _ => 0)]) → va_S A s.heap H1 locs → W p l e R s m args below meth c H1 locs k1 k2 Q (F0 m (pc + 2) ls (.ref q :: rest))) : W p l e R s m args below meth c H locs cells slots Q (F0 m pc ls (.int (nI n) :: rest)) := by
  subst hk1; subst hk2
  refine va_newa hx hb (atype := .int) harr (ty := .int) rfl hK hP hD hS hA (N' := n) (a0 := (n, .inl (fun _ => 0))) (fun cA => by rw [vp_cell_i]; rfl) (nI_pos (by omega)) (nI_clamp (by omega)) (by show n * 4 ≤ _; omega) hcells hslots hdg (fun q cA H1 hK1 h1 h2 h3 => ?_)
  have hc : cA = g.2.1 := xa_cls (tys := xg_t g) hK1 rfl (fun _ h => by cases h) (hK.2 0 _ rfl).2
  subst hc
  exact kk q H1 h1 h2 h3
theorem xa_newL (hx : p.tables.exec = Jvm.exec) (hb : c.code = cc) (harr : (Cond.arrayClass .long).before args s = true) (hK : va_K g.1 vwCl (xg_t g) s) (hP : va_P g.1 vwCl ws H) (hD : va_D A ws) (hS : va_S A s.heap H locs) (hA : ∀ q, s.heap.size ≤ q → A q) {n k1 k2 : Nat} (hn : n < 2 ^ 26) (hk1 : cells + 1 = k1) (hk2 : slots + n = k2) (hcells : k1 ≤ R.cells) (hslots : k2 ≤ R.slots) (hdg : decode cc pc = .ok (.newarray .long, 2))
    (kk : ∀ (q : Nat) (H1 : Heap), va_P g.1 vwCl (ws ++ [oc_l g q n (fun _ => 0)]) H1 → va_D A (ws ++ [oc_l g q n (fun _ => 0)]) → va_S A s.heap H1 locs → W p l e R s m args below meth c H1 locs k1 k2 Q (F0 m (pc + 2) ls (.ref q :: rest))) : W p l e R s m args below meth c H locs cells slots Q (F0 m pc ls (.int (nI n) :: rest)) := by
  subst hk1; subst hk2
  refine va_newa hx hb (atype := .long) harr (ty := .long) rfl hK hP hD hS hA (N' := n) (a0 := (n, .inr (.inl (fun _ => 0)))) (fun cA => by rw [vp_cell_l]; rfl) (nI_pos (by omega)) (nI_clamp (by omega)) (by show n * 8 ≤ _; omega) hcells hslots hdg (fun q cA H1 hK1 h1 h2 h3 => ?_)
  have hc : cA = g.2.2.1 := xa_cls (tys := xg_t g) hK1 rfl (fun _ h => by cases h) (hK.2 1 _ rfl).2
  subst hc
  exact kk q H1 h1 h2 h3
theorem xa_newZ (hx : p.tables.exec = Jvm.exec) (hb : c.code = cc) (harr : (Cond.arrayClass .boolean).before args s = true) (hK : va_K g.1 vwCl (xg_t g) s) (hP : va_P g.1 vwCl ws H) (hD : va_D A ws) (hS : va_S A s.heap H locs) (hA : ∀ q, s.heap.size ≤ q → A q) {n k1 k2 : Nat} (hn : n < 2 ^ 29) (hk1 : cells + 1 = k1) (hk2 : slots + n = k2) (hcells : k1 ≤ R.cells) (hslots : k2 ≤ R.slots) (hdg : decode cc pc = .ok (.newarray .boolean, 2))
    (kk : ∀ (q : Nat) (H1 : Heap), va_P g.1 vwCl (ws ++ [oc_z g q n (fun _ => 0)]) H1 → va_D A (ws ++ [oc_z g q n (fun _ => 0)]) → va_S A s.heap H1 locs → W p l e R s m args below meth c H1 locs k1 k2 Q (F0 m (pc + 2) ls (.ref q :: rest))) : W p l e R s m args below meth c H locs cells slots Q (F0 m pc ls (.int (nI n) :: rest)) := by
  subst hk1; subst hk2
  refine va_newa hx hb (atype := .boolean) harr (ty := .boolean) rfl hK hP hD hS hA (N' := n) (a0 := (n, .inl (fun _ => 0))) (fun cA => by rw [vp_cell_i]; rfl) (nI_pos (by omega)) (nI_clamp (by omega)) (by show n * 1 ≤ _; omega) hcells hslots hdg (fun q cA H1 hK1 h1 h2 h3 => ?_)
  have hc : cA = g.2.2.2 := xa_cls (tys := xg_t g) hK1 rfl (fun _ h => by cases h) (hK.2 2 _ rfl).2
  subst hc
  exact kk q H1 h1 h2 h3
-- forgetting cells of the world
theorem xw_sub {wr : va_W} {g0 : JFrame} (hP : va_P g.1 vwCl ws H) (hD : va_D A ws) (is : List Nat) (hnd : va_nd is = true) (hs : is.map (fun i => ws[i]?) = wr.map some) (kk : va_P g.1 vwCl wr H → va_D A wr → W p l e R s m args below meth c H locs cells slots Q g0) : W p l e R s m args below meth c H locs cells slots Q g0 :=
  kk (hP.sub is (xs_fm hs)) (hD.sub is hnd hs)
end XR
-- calls
section XC
variable {p : Program} {l : Launch} {e : Env} {R : Room} {s : State} {m : MethodId} {args : Array Value} {below : List Frame} {meth : Method} {c : Code} {H : Heap} {locs : List Loc} {cells slots : Nat} {Q : State → Prop}
variable {cc : ByteArray} {pc nL : Nat} {ls : Array Slot} {rest st0 : List Value} {g : xg_G} {A : Nat → Prop} {a : Nat} {ws wc wr : va_W} {S : Type} {ws' : S → va_W} {y : MethodName} {b : ByteArray} {n idx : Nat} {rt : FieldType} {rm : Room} {own C : String} {As : List Value} {k1 k2 : Nat}
theorem xc_pre (hE : xe_E A s s.heap) (hK : va_K g.1 vwCl (xg_t g) s) (hP : va_P g.1 vwCl ws H) (hD : va_D A ws) (hS : va_S A s.heap H locs) (hA : ∀ q, s.heap.size ≤ q → A q) {av : List Value} (isC : List Nat) (hC : isC.map (fun i => ws[i]?) = wc.map some) (hn : va_nd isC = true) : PreS s H (kc_P g av wc H.size) av :=
  ⟨kc_blind, fun U hU hW => ⟨rfl, by rw [hU], by rw [hU]; exact hP.sub isC (xs_fm hC), va_K.moved hW.alike hK, (hD.sub isC hn hC).weaken (fun _ _ _ _ => trivial), xe_go hE hS (va_free hD hS hA isC hC) hU hW⟩⟩
theorem xc_preV (hE : xe_E A s s.heap) (hK : va_K g.1 vwCl (xg_t g) s) (hP : va_P g.1 vwCl ws H) (hD : va_D A ws) (hS : va_S A s.heap H locs) (hA : ∀ q, s.heap.size ≤ q → A q) (isC : List Nat) (hC : isC.map (fun i => ws[i]?) = wc.map some) (hn : va_nd isC = true) (q0 : Nat) {ci : Nat} {fs : List Value} {q : vw_C} (hc : vwCl[ci]? = some q) (he : ws[q0]? = some (oc_o a ci fs)) (hq : q.1 = C) : PreV s H C a (kc_P g (.ref a :: As) wc H.size) As := by
  subst hq
  exact ⟨kc_blind, va_recv hK hP hc he, (xc_pre hE hK hP hD hS hA isC hC hn).2⟩
theorem xc_iG {post : Int32 → S → Prop} {av : Array Value} (hr : va_Run p l e R s m args below meth c H locs cells slots rm.cells rm.slots (F0 m pc ls st0) rest (va_Qi post (kc_B g (va_A wc H.size) ws') (va_A wc H.size) av) (va_A wc H.size)) (hP : va_P g.1 vwCl ws H) (hD : va_D A ws) (hS : va_S A s.heap H locs) (hA : ∀ q, s.heap.size ≤ q → A q) (isC isR : List Nat) (hC : isC.map (fun i => ws[i]?) = wc.map some) (hR : isR.map (fun i => ws[i]?) = wr.map some) (hn : va_nd isR = true) (hdis : ∀ i ∈ isR, i ∉ isC) (hk1 : cells + rm.cells = k1) (hk2 : slots + rm.slots = k2)
    (kk : ∀ (r : Int32) (u : S) (H1 : Heap) (locs1 : List Loc), post r u → va_P g.1 vwCl (wr ++ ws' u) H1 → va_D A (wr ++ ws' u) → va_S A s.heap H1 locs1 → W p l e R s m args below meth c H1 locs1 k1 k2 Q (F0 m (pc + 3) ls (.int r :: rest))) : W p l e R s m args below meth c H locs cells slots Q (F0 m pc ls st0) := by
  subst hk1; subst hk2
  have hF := va_free (wc := wc) hD hS hA isC hC
  refine va_calli hr hS (fun q _ h => hF q h) hF (fun r u t H1 locs1 ht hvm hp hB hz hk hS1 => ?_)
  obtain ⟨hP1, hD1⟩ := hB
  rw [ht] at hP1
  obtain ⟨hP2, hD2⟩ := va_join (wr := wr) (w1 := ws' u) hP hD isC isR hC hR hn hdis hk hF hP1 hD1
  exact kk r u H1 locs1 hp hP2 hD2 hS1
theorem xc_vG {post : S → Prop} {av : Array Value} (hr : va_Run p l e R s m args below meth c H locs cells slots rm.cells rm.slots (F0 m pc ls st0) rest (va_Qv post (kc_B g (va_A wc H.size) ws') (va_A wc H.size) av) (va_A wc H.size)) (hP : va_P g.1 vwCl ws H) (hD : va_D A ws) (hS : va_S A s.heap H locs) (hA : ∀ q, s.heap.size ≤ q → A q) (isC isR : List Nat) (hC : isC.map (fun i => ws[i]?) = wc.map some) (hR : isR.map (fun i => ws[i]?) = wr.map some) (hn : va_nd isR = true) (hdis : ∀ i ∈ isR, i ∉ isC) (hk1 : cells + rm.cells = k1) (hk2 : slots + rm.slots = k2)
    (kk : ∀ (u : S) (H1 : Heap) (locs1 : List Loc), post u → va_P g.1 vwCl (wr ++ ws' u) H1 → va_D A (wr ++ ws' u) → va_S A s.heap H1 locs1 → W p l e R s m args below meth c H1 locs1 k1 k2 Q (F0 m (pc + 3) ls rest)) : W p l e R s m args below meth c H locs cells slots Q (F0 m pc ls st0) := by
  subst hk1; subst hk2
  have hF := va_free (wc := wc) hD hS hA isC hC
  refine va_callv hr hS (fun q _ h => hF q h) hF (fun u t H1 locs1 ht hvm hp hB hz hk hS1 => ?_)
  obtain ⟨hP1, hD1⟩ := hB
  rw [ht] at hP1
  obtain ⟨hP2, hD2⟩ := va_join (wr := wr) (w1 := ws' u) hP hD isC isR hC hR hn hdis hk hF hP1 hD1
  exact kk u H1 locs1 hp hP2 hD2 hS1
-- what a site gives: the fixed things of the walk, and its room
abbrev xf_F (g : xg_G) (p : Program) (m : MethodId) (c : Code) (cc : ByteArray) (nL : Nat) (s : State) (args : Array Value) (own : String) (A : Nat → Prop) : Prop := CallFix p m c cc nL s args xt_T own ∧ xe_E A s s.heap ∧ va_K g.1 vwCl (xg_t g) s ∧ (∀ q, s.heap.size ≤ q → A q)
abbrev xf_R (R : Room) (rm : Room) (n cells slots k1 k2 : Nat) : Prop := (rm.frames + 1 ≤ R.frames ∧ 8 + (n + 11) + rm.locals ≤ R.locals) ∧ cells + rm.cells = k1 ∧ slots + rm.slots = k2 ∧ k1 ≤ R.cells ∧ k2 ≤ R.slots
abbrev xf_P (ws wc wr : va_W) (isC isR : List Nat) : Prop := isC.map (fun i => ws[i]?) = wc.map some ∧ isR.map (fun i => ws[i]?) = wr.map some ∧ va_nd isC = true ∧ va_nd isR = true ∧ ∀ i ∈ isR, i ∉ isC
theorem xc_Vi {post : Int32 → S → Prop} (F : xf_F g p m c cc nL s args own A) (hP : va_P g.1 vwCl ws H) (hD : va_D A ws) (hS : va_S A s.heap H locs) (hM : kc_I l y b n rt rm g (.ref a :: As) wc post ws') (hT : GoodIn xt_T (wsV own idx C y (.code y b n (some rt) :: xt_T))) {k : Nat} (hd : y.cls = C ∧ y.cls ≠ "java/lang/invoke/MethodHandle" ∧ y.cls ≠ "java/lang/invoke/VarHandle" ∧ (parseMethodDescriptor y.desc).map (fun d => d.parameters.length) = some k) (q0 : Nat) {ci : Nat} {fs : List Value} {q : vw_C} (hc : vwCl[ci]? = some q) (he : ws[q0]? = some (oc_o a ci fs)) (hq : q.1 = C) (isC isR : List Nat) (hpl : xf_P ws wc wr isC isR) (hrm : xf_R R rm n cells slots k1 k2) (hlen : As.length = k) (hsz : ls.size = nL) (hst : st0 = As.reverse ++ .ref a :: rest) (hW : (rest.map fun v => v.category).sum ≤ 8) (hdg : decode cc pc = .ok (.invokevirtual idx, 3))
    (kk : ∀ (r : Int32) (u : S) (H1 : Heap) (locs1 : List Loc), post r u → va_P g.1 vwCl (wr ++ ws' u) H1 → va_D A (wr ++ ws' u) → va_S A s.heap H1 locs1 → W p l e R s m args below meth c H1 locs1 k1 k2 Q (F0 m (pc + 3) ls (.int r :: rest))) : W p l e R s m args below meth c H locs cells slots Q (F0 m pc ls st0) := by
  obtain ⟨Fx, hE, hK, hA⟩ := F
  obtain ⟨hC, hR, hnC, hnR, hdis⟩ := hpl
  obtain ⟨hrm, h1, h2, h3, h4⟩ := hrm
  exact xc_iG (va_runV (As := As) (rest := rest) (b := a) (C := C) Fx (hM H.size) (cwV k Fx.2.2.2.2 hT rfl rfl rfl hd hrm) (xc_preV hE hK hP hD hS hA isC hC hnC q0 hc he hq) rfl hlen hsz hst (lv_room hW) hdg ⟨by rw [h1]; exact h3, by rw [h2]; exact h4⟩) hP hD hS hA isC isR hC hR hnR hdis h1 h2 kk
theorem xc_Vv {post : S → Prop} (F : xf_F g p m c cc nL s args own A) (hP : va_P g.1 vwCl ws H) (hD : va_D A ws) (hS : va_S A s.heap H locs) (hM : kc_V l y b n rm g (.ref a :: As) wc post ws') (hT : GoodIn xt_T (wsV own idx C y (.code y b n none :: xt_T))) {k : Nat} (hd : y.cls = C ∧ y.cls ≠ "java/lang/invoke/MethodHandle" ∧ y.cls ≠ "java/lang/invoke/VarHandle" ∧ (parseMethodDescriptor y.desc).map (fun d => d.parameters.length) = some k) (q0 : Nat) {ci : Nat} {fs : List Value} {q : vw_C} (hc : vwCl[ci]? = some q) (he : ws[q0]? = some (oc_o a ci fs)) (hq : q.1 = C) (isC isR : List Nat) (hpl : xf_P ws wc wr isC isR) (hrm : xf_R R rm n cells slots k1 k2) (hlen : As.length = k) (hsz : ls.size = nL) (hst : st0 = As.reverse ++ .ref a :: rest) (hW : (rest.map fun v => v.category).sum ≤ 8) (hdg : decode cc pc = .ok (.invokevirtual idx, 3))
    (kk : ∀ (u : S) (H1 : Heap) (locs1 : List Loc), post u → va_P g.1 vwCl (wr ++ ws' u) H1 → va_D A (wr ++ ws' u) → va_S A s.heap H1 locs1 → W p l e R s m args below meth c H1 locs1 k1 k2 Q (F0 m (pc + 3) ls rest)) : W p l e R s m args below meth c H locs cells slots Q (F0 m pc ls st0) := by
  obtain ⟨Fx, hE, hK, hA⟩ := F
  obtain ⟨hC, hR, hnC, hnR, hdis⟩ := hpl
  obtain ⟨hrm, h1, h2, h3, h4⟩ := hrm
  exact xc_vG (va_runV (As := As) (rest := rest) (b := a) (C := C) Fx (hM H.size) (cwV k Fx.2.2.2.2 hT rfl rfl rfl hd hrm) (xc_preV hE hK hP hD hS hA isC hC hnC q0 hc he hq) rfl hlen hsz hst (lv_room hW) hdg ⟨by rw [h1]; exact h3, by rw [h2]; exact h4⟩) hP hD hS hA isC isR hC hR hnR hdis h1 h2 kk
theorem xc_Iv {post : S → Prop} (F : xf_F g p m c cc nL s args own A) (hP : va_P g.1 vwCl ws H) (hD : va_D A ws) (hS : va_S A s.heap H locs) (hM : kc_V l y b n rm g (.ref a :: As) wc post ws') (hcode : Cond.code y b n none ∈ xt_T) (hini : Cond.initialized y.cls ∈ xt_T) (hlk : Cond.methodLink own idx y ∈ xt_T) (hin : Cond.instanceMethod y ∈ xt_T) (hy1 : y.name = "<init>") {k : Nat} (hd : y.cls ≠ "java/lang/invoke/MethodHandle" ∧ y.cls ≠ "java/lang/invoke/VarHandle" ∧ (parseMethodDescriptor y.desc).map (fun d => d.parameters.length) = some k) (isC isR : List Nat) (hpl : xf_P ws wc wr isC isR) (hrm : xf_R R rm n cells slots k1 k2) (hlen : As.length = k) (hsz : ls.size = nL) (hst : st0 = As.reverse ++ .ref a :: rest) (hW : (rest.map fun v => v.category).sum ≤ 8) (hdg : decode cc pc = .ok (.invokespecial idx, 3))
    (kk : ∀ (u : S) (H1 : Heap) (locs1 : List Loc), post u → va_P g.1 vwCl (wr ++ ws' u) H1 → va_D A (wr ++ ws' u) → va_S A s.heap H1 locs1 → W p l e R s m args below meth c H1 locs1 k1 k2 Q (F0 m (pc + 3) ls rest)) : W p l e R s m args below meth c H locs cells slots Q (F0 m pc ls st0) := by
  obtain ⟨Fx, hE, hK, hA⟩ := F
  obtain ⟨hC, hR, hnC, hnR, hdis⟩ := hpl
  obtain ⟨hrm, h1, h2, h3, h4⟩ := hrm
  have hts := Fx.2.2.2.2
  exact xc_vG (va_runI (As := As) (rest := rest) (b := a) Fx (hM H.size) (cwI k hts (xt_sub hcode) rfl rfl rfl (hts _ hini) (hts _ hlk) (hts _ hin) hy1 hd hrm) (xc_pre hE hK hP hD hS hA isC hC hnC) rfl hlen hsz hst (lv_room hW) hdg ⟨by rw [h1]; exact h3, by rw [h2]; exact h4⟩) hP hD hS hA isC isR hC hR hnR hdis h1 h2 kk
theorem xc_Si {post : Int32 → S → Prop} (F : xf_F g p m c cc nL s args own A) (hP : va_P g.1 vwCl ws H) (hD : va_D A ws) (hS : va_S A s.heap H locs) (hM : kc_I l y b n rt rm g As wc post ws') (hcode : Cond.code y b n (some rt) ∈ xt_T) (hini : Cond.initialized y.cls ∈ xt_T) (hlk : Cond.methodLink own idx y ∈ xt_T) (hst9 : Cond.static y ∈ xt_T) {k : Nat} (hd : y.cls ≠ "java/lang/invoke/MethodHandle" ∧ y.cls ≠ "java/lang/invoke/VarHandle" ∧ (parseMethodDescriptor y.desc).map (fun d => d.parameters.length) = some k) (isC isR : List Nat) (hpl : xf_P ws wc wr isC isR) (hrm : xf_R R rm n cells slots k1 k2) (hlen : As.length = k) (hsz : ls.size = nL) (hst : st0 = As.reverse ++ rest) (hW : (rest.map fun v => v.category).sum ≤ 8) (hdg : decode cc pc = .ok (.invokestatic idx, 3))
    (kk : ∀ (r : Int32) (u : S) (H1 : Heap) (locs1 : List Loc), post r u → va_P g.1 vwCl (wr ++ ws' u) H1 → va_D A (wr ++ ws' u) → va_S A s.heap H1 locs1 → W p l e R s m args below meth c H1 locs1 k1 k2 Q (F0 m (pc + 3) ls (.int r :: rest))) : W p l e R s m args below meth c H locs cells slots Q (F0 m pc ls st0) := by
  obtain ⟨Fx, hE, hK, hA⟩ := F
  obtain ⟨hC, hR, hnC, hnR, hdis⟩ := hpl
  obtain ⟨hrm, h1, h2, h3, h4⟩ := hrm
  have hts := Fx.2.2.2.2
  exact xc_iG (va_runS (As := As) (rest := rest) Fx (hM H.size) ⟨callB_of k hts (xt_sub hcode) rfl rfl rfl (hts _ hini) (hts _ hlk) hd hrm, hts _ hst9⟩ (xc_pre hE hK hP hD hS hA isC hC hnC) rfl hlen hsz hst (lv_room hW) hdg ⟨by rw [h1]; exact h3, by rw [h2]; exact h4⟩) hP hD hS hA isC isR hC hR hnR hdis h1 h2 kk
theorem xc_Sv {post : S → Prop} (F : xf_F g p m c cc nL s args own A) (hP : va_P g.1 vwCl ws H) (hD : va_D A ws) (hS : va_S A s.heap H locs) (hM : kc_V l y b n rm g As wc post ws') (hcode : Cond.code y b n none ∈ xt_T) (hini : Cond.initialized y.cls ∈ xt_T) (hlk : Cond.methodLink own idx y ∈ xt_T) (hst9 : Cond.static y ∈ xt_T) {k : Nat} (hd : y.cls ≠ "java/lang/invoke/MethodHandle" ∧ y.cls ≠ "java/lang/invoke/VarHandle" ∧ (parseMethodDescriptor y.desc).map (fun d => d.parameters.length) = some k) (isC isR : List Nat) (hpl : xf_P ws wc wr isC isR) (hrm : xf_R R rm n cells slots k1 k2) (hlen : As.length = k) (hsz : ls.size = nL) (hst : st0 = As.reverse ++ rest) (hW : (rest.map fun v => v.category).sum ≤ 8) (hdg : decode cc pc = .ok (.invokestatic idx, 3))
    (kk : ∀ (u : S) (H1 : Heap) (locs1 : List Loc), post u → va_P g.1 vwCl (wr ++ ws' u) H1 → va_D A (wr ++ ws' u) → va_S A s.heap H1 locs1 → W p l e R s m args below meth c H1 locs1 k1 k2 Q (F0 m (pc + 3) ls rest)) : W p l e R s m args below meth c H locs cells slots Q (F0 m pc ls st0) := by
  obtain ⟨Fx, hE, hK, hA⟩ := F
  obtain ⟨hC, hR, hnC, hnR, hdis⟩ := hpl
  obtain ⟨hrm, h1, h2, h3, h4⟩ := hrm
  have hts := Fx.2.2.2.2
  exact xc_vG (va_runS (As := As) (rest := rest) Fx (hM H.size) ⟨callB_of k hts (xt_sub hcode) rfl rfl rfl (hts _ hini) (hts _ hlk) hd hrm, hts _ hst9⟩ (xc_pre hE hK hP hD hS hA isC hC hnC) rfl hlen hsz hst (lv_room hW) hdg ⟨by rw [h1]; exact h3, by rw [h2]; exact h4⟩) hP hD hS hA isC isR hC hR hnR hdis h1 h2 kk
theorem xc_SNi {post : Int32 → S → Prop} {host : String} (F : xf_F g p m c cc nL s args own A) (hP : va_P g.1 vwCl ws H) (hD : va_D A ws) (hS : va_S A s.heap H locs) (hM : kc_I l y b n rt rm g As wc post ws') (hcode : Cond.code y b n (some rt) ∈ xt_T) (hini : Cond.initialized y.cls ∈ xt_T) (hlk : va_Nw (.methodLinkNest own idx y host) s) (hst9 : Cond.static y ∈ xt_T) {k : Nat} (hd : y.cls ≠ "java/lang/invoke/MethodHandle" ∧ y.cls ≠ "java/lang/invoke/VarHandle" ∧ (parseMethodDescriptor y.desc).map (fun d => d.parameters.length) = some k) (isC isR : List Nat) (hpl : xf_P ws wc wr isC isR) (hrm : xf_R R rm n cells slots k1 k2) (hlen : As.length = k) (hsz : ls.size = nL) (hst : st0 = As.reverse ++ rest) (hW : (rest.map fun v => v.category).sum ≤ 8) (hdg : decode cc pc = .ok (.invokestatic idx, 3))
    (kk : ∀ (r : Int32) (u : S) (H1 : Heap) (locs1 : List Loc), post r u → va_P g.1 vwCl (wr ++ ws' u) H1 → va_D A (wr ++ ws' u) → va_S A s.heap H1 locs1 → W p l e R s m args below meth c H1 locs1 k1 k2 Q (F0 m (pc + 3) ls (.int r :: rest))) : W p l e R s m args below meth c H locs cells slots Q (F0 m pc ls st0) := by
  obtain ⟨Fx, hE, hK, hA⟩ := F
  obtain ⟨hC, hR, hnC, hnR, hdis⟩ := hpl
  obtain ⟨hrm, h1, h2, h3, h4⟩ := hrm
  have hts := Fx.2.2.2.2
  exact xc_iG (va_runSN (As := As) (rest := rest) Fx (hM H.size) ⟨va_cnB k hts (xt_sub hcode) rfl rfl rfl hlk (hts _ hini) hd hrm, hts _ hst9, trivial⟩ (xc_pre hE hK hP hD hS hA isC hC hnC) rfl hlen hsz hst (lv_room hW) hdg ⟨by rw [h1]; exact h3, by rw [h2]; exact h4⟩) hP hD hS hA isC isR hC hR hnR hdis h1 h2 kk
end XC
end
section
-- how a method ends by a throw
def xt_E (A : Nat → Prop) (X : String) (st : State) (o : Outcome) (t : State) (mc ms : Nat) : Prop := ∃ (x : Addr) (ce : Cell) (L : List Loc), o = .threw x ∧ t.heap[x]? = some ce ∧ ce.vm = .none ∧ st.vm.findClass X = some ce.cls ∧ st.vm.assignable ce.cls ce.cls = true ∧ st.WarmedH t.vm ∧ st.sameButNew ({ t with vm := st.vm } : State) L mc ms ∧ ∀ q ∈ L, A q.base
def xt_Q (below : List Frame) (A : Nat → Prop) (X : String) (s : State) (mc ms : Nat) : State → Prop := fun t => ∃ o, t.status = .running ∧ Ended t below o ∧ xt_E A X s o t mc ms
def kc_T (l : Launch) (y : MethodName) (b : ByteArray) (n : Nat) (ret : Option FieldType) (rm : Room) (g : xg_G) (av : List Value) (ws : va_W) (X : String) : Prop :=
  ∀ sz : Nat, MetFree l y (headSpec (.code y b n ret :: xt_T) rm) (kc_P g av ws sz) (fun _ _ _ _ _ => True) (fun _ st o t => xt_E (va_A ws sz) X st o t rm.cells rm.slots)
theorem xt_kept {A : Nat → Prop} {st t : State} {L : List Loc} {mc ms : Nat} (h : st.sameButNew ({ t with vm := st.vm } : State) L mc ms) (hL : ∀ q ∈ L, A q.base) : va_F A st t := by
  obtain ⟨-, h2, -, -, -, h6⟩ := h
  refine ⟨h2, fun q hq hA => ?_⟩
  obtain ⟨c', e1, e2, e3, e4⟩ := h6 q _ (Array.getElem?_eq_getElem hq)
  have e5 : c'.slots = (st.heap[q]).slots := by
    refine Array.ext e3 (fun i h1 h3 => ?_)
    have h9 := e4 i (fun hm => hA (hL _ hm))
    rw [Array.getElem?_eq_getElem h1, Array.getElem?_eq_getElem h3] at h9
    exact Option.some.inj h9
  have e6 : c' = st.heap[q] := by rw [e2, e5]
  have e7 : t.heap[q]? = some c' := e1
  rw [e7, e6, Array.getElem?_eq_getElem hq]
theorem xt_plain {g : xg_G} {ws : va_W} {s : State} (hP : va_P g.1 vwCl ws s.heap) : ∀ (q : Nat) (cell : Cell), va_A ws s.heap.size q → s.heap[q]? = some cell → cell.vm.isStatics = false := by
  intro q cell hA hc
  rcases hA with ⟨k, en, hk⟩ | hA
  · have h := hP k (q, en) hk
    cases en with
    | inl a =>
      have h1 : s.heap[q]? = some (vp_cell a.1 a.2) := h
      rw [h1] at hc
      cases hc
      obtain ⟨c, n, f | f | f | f | f⟩ := a <;> rfl
    | inr o =>
      obtain ⟨r, -, ce, h1, -, h3, -⟩ := h
      have h4 : s.heap[q]? = some ce := h1
      rw [h4] at hc
      cases hc
      rw [h3]
      rfl
  · have := (Array.getElem?_eq_some_iff.mp hc).1
    omega
theorem kc_Tof {l : Launch} {y : MethodName} {b : ByteArray} {n : Nat} {ret : Option FieldType} {rm : Room} {g : xg_G} {av : List Value} {ws : va_W} {X : String} (hy : plainName y.cls = true) (hal : (lg_sl av).length ≤ n)
    (body : ∀ (p : Program) (e : Env) (s : State) (m : MethodId) (args : Array Value) (below : List Frame) (meth : Method) (c : Code) (A : Nat → Prop) (ls : Array Slot) (Q : State → Prop) (H : Heap) (locs : List Loc), (∀ t, xt_Q below A X s rm.cells rm.slots t → Q t) → xb_B g y b n ret av ws p s m args meth c A ls → va_P g.1 vwCl ws H → va_S A s.heap H locs → ((∀ (q : Nat) (cell : Cell), A q → s.heap[q]? = some cell → cell.vm.isStatics = false) ∧ c.exceptionTable.isEmpty = true) → W p l e rm s m args below meth c H locs 0 0 Q (F0 m 0 ls [])) : kc_T l y b n ret rm g av ws X := by
  intro sz
  refine MetFree.of_bodyS (code := b) (maxLocals := n) (ret := ret) hy ?_ ?_
  · intro args s m h hn
    obtain ⟨meth, c, h1, h2, h3, h4, h5, h6, -, -⟩ := Cond.code_spec hn (atoms_spec (ws := .code y b n ret :: xt_T) h _ List.mem_cons_self)
    exact ⟨meth, c, h1, h2, h3, h4, h5, h6⟩
  · intro p e s m args below meth c s₁ B hml hv _
    have hh0 : s₁.heap = s.heap := by rw [B.state]; rfl
    have hex := B.noHandlers (atoms_spec (ws := .code y b n ret :: xt_T) B.pre _ List.mem_cons_self)
    obtain ⟨ls, e1, hsz, hP, hB⟩ := xb_get hal B hml hv
    rw [e1]
    obtain ⟨t, a1, o, b1, b2, b3⟩ := body p e s m args below meth c _ ls (xt_Q below (va_A ws sz) X s rm.cells rm.slots) _ _ (fun _ h => h) hB hP va_S.rf ⟨by rw [← hsz]; exact xt_plain hP, hex⟩ s₁ hh0 (Stand.of_body B)
    exact ⟨t, o, a1, b1, b2, b3⟩
theorem xt_isRef {C n d : String} {A : Nat → Prop} {s : State} {args : Array Value} (h : va_Zq C n d A s s.heap) : (Cond.isRef (.static C n d)).before args s = true := by
  have key : ∀ v : Value, va_Z C n d v A s s.heap → (Term.static C n d).eval args s none [] s = some v := by
    intro v hv
    obtain ⟨cf, kf, fi, f, a, cell, h1, h2, h3, h4, h5, h6, h7, -⟩ := hv
    simp [Term.eval, State.fieldNamed?, h1, h2, h4, h5, h6, h7]
  rcases h with h | ⟨t, h⟩
  · simp [Cond.before, Cond.holds, Cond.value, key _ h]
  · simp [Cond.before, Cond.holds, Cond.value, key _ h]
abbrev xt_r1 : Cond := .isRef (.static "java/lang/Throwable" "UNASSIGNED_STACK" "[Ljava/lang/StackTraceElement;")
abbrev xt_r2 : Cond := .isRef (.static "java/lang/Throwable" "SUPPRESSED_SENTINEL" "Ljava/util/List;")
abbrev xt_r3 : Cond := .laysStatic "java/lang/Throwable" "UNASSIGNED_STACK" "[Ljava/lang/StackTraceElement;"
abbrev xt_r4 : Cond := .laysStatic "java/lang/Throwable" "SUPPRESSED_SENTINEL" "Ljava/util/List;"
def xt_K (a : Cond) : Prop := a ∈ xt_T ∨ (a = xt_r1 ∨ a = xt_r2 ∨ a = xt_r3 ∨ a = xt_r4) ∨ (∃ x ∈ xe_ds, a = .declares x) ∨ ∃ C ∈ xe_cs, a = .castable C C
section XT
variable {p : Program} {l : Launch} {e : Env} {R : Room} {s : State} {m : MethodId} {args : Array Value} {below : List Frame} {meth : Method} {c : Code} {H : Heap} {locs : List Loc} {cells slots : Nat} {Q : State → Prop}
variable {cc : ByteArray} {pc nL : Nat} {ls : Array Slot} {rest : List Value} {g : xg_G} {A : Nat → Prop} {mc ms : Nat}
/-- new X; dup; X(); athrow: out of the method -/
theorem xt_throw {own cls : String} {names : List String} {i1 ic : Nat} (hat : ∀ a ∈ Bundle.ownAtoms0 own ic cls names, xt_K a) (hfit : Bundle.fit cls = true) (hnames : ∀ n ∈ names, Bundle.fit n = true) (hcl : Cond.classLink own i1 cls ∈ xt_T) (hins : Cond.instantiable cls 6 ∈ xt_T) (hini : Cond.initialized cls ∈ xt_T)
    (htr : l.stackTraces = false) (hx : p.tables.exec = Jvm.exec) (hb : c.code = cc) (hlk : meth.locks = false) (hts : ∀ w ∈ xt_T, w.before args s = true) (hown : s.vm.findClass own = some m.cls) (hE : xe_E A s s.heap) (hst : (∀ (q : Nat) (cell : Cell), A q → s.heap[q]? = some cell → cell.vm.isStatics = false) ∧ c.exceptionTable.isEmpty = true) (hS : va_S A s.heap H locs) (hml : c.maxLocals = nL) (hsz : ls.size = nL) (hQ : ∀ t, xt_Q below A cls s mc ms t → Q t)
    (d1 : decode cc pc = .ok (.new i1, 3)) (d2 : decode cc (pc + 3) = .ok (.dup, 1)) (d3 : decode cc (pc + 4) = .ok (.invokespecial ic, 3)) (d4 : decode cc (pc + 7) = .ok (.athrow, 1)) (hc1 : cells + 1 ≤ R.cells) (hc2 : slots + 6 ≤ R.slots) (hmc : cells + 1 ≤ mc) (hms : slots + 6 ≤ ms) (hR1 : names.length + 3 < R.frames) (hR2 : 1 + (13 * (names.length + 1) + 41) ≤ R.locals) :
    W p l e R s m args below meth c H locs cells slots Q (F0 m pc ls []) := by
  refine W.newc hx hb hown (hts _ hcl) (hts _ hins) (hts _ hini) rfl d1 hc1 hc2 (fun cC kC h1 h2 h3 h4 => ?_)
  refine W.eq (g2 := F0 m (pc + 3) ls [.ref H.size]) rfl ?_
  refine lv_dup hx hb d2 rfl ?_
  refine W.widen (k := mc) (n := ms) hmc hms ?_
  intro T hT X
  have htr' : e.platform.stackTraces = false := by
    have h9 : e.platform.stackTraces = l.stackTraces := by rw [X.admits.platform]
    rw [h9]; exact htr
  have hatoms : ∀ a ∈ Bundle.ownAtoms0 own ic cls names, a.before args s = true := by
    intro a ha
    rcases hat a ha with h | (h | h | h | h) | ⟨x, hx9, h⟩ | ⟨C, hC9, h⟩
    · exact hts a h
    · rw [h]; exact xt_isRef hE.1
    · rw [h]; exact xt_isRef hE.2.1
    · rw [h]; exact hE.2.2.2.2.2.1.use
    · rw [h]; exact hE.2.2.2.2.2.2.1.use
    · rw [h]; exact va_Nw.use rfl (hE.2.2.2.2.2.2.2.1 x hx9)
    · rw [h]; exact (hE.2.2.2.2.2.2.2.2 C hC9).use
  have hout : ∀ x ∈ c.exceptionTable.toList, covers x (pc + 4 + 3) = false := by
    have h9 : c.exceptionTable = #[] := by simpa using hst.2
    rw [h9]; intro x hx9; cases hx9
  obtain ⟨U, hst1, hrun, hend, hW, hsame, ce, hce, hOC⟩ := X.ctorThrow0 hx htr' hown hfit hnames hatoms (fun x hx9 cell hc9 => hst.1 _ _ (hS.2.2 x hx9) hc9) h1 h2 (a := H.size) (by rw [hT]; simp) hS.1 (g := F0 m (pc + 4) ls [.ref H.size, .ref H.size]) (rest := []) rfl (hsz.trans hml.symm) rfl rfl rfl (by rw [hb]; exact d3) (by rw [hb]; exact d4) hout hR1 (by show 2 * 0 + 1 + _ ≤ _; omega) hlk
  exact ⟨U, hst1, hQ U ⟨_, hrun, hend, H.size, ce, locs, rfl, hce, hOC.vm, hOC.cls, hOC.self, hW, hsame, hS.2.2⟩⟩
end XT
-- the search through a table of handlers, its classes resolved now or before
theorem xt_row {Q : Handler → Pre} {E : CtlPost} {e : Env} {d : Bool} {acts : List Action} {S : State} {f : JFrame} {a : Addr} {z : ExceptionTableEntry} {t : List ExceptionTableEntry} {cT : ClassId} {cell : Cell} (hz : covers z f.pc = true) (h0 : z.catchType ≠ 0) (hl : S.vm.ClassLinks e.platform f.method.cls z.catchType cT) (hcell : S.heap[a]? = some cell) (hobj : ∀ k, cell.vm ≠ .statics k) (hk : ∃ k, S.vm.classes[cell.cls]? = some k) (hc : ∃ k, S.vm.classes[cT]? = some k) :
    wp (findHandler.go f a (z :: t)) Q E e d acts S ↔ (if S.vm.assignable cell.cls cT = true then Q (.found z.handlerPc) d acts (S.setVm (S.vm.noted f.method.cls z.catchType (.cls cT))) else wp (findHandler.go f a t) Q E e d acts (S.setVm (S.vm.noted f.method.cls z.catchType (.cls cT)))) := by
  simp only [covers] at hz
  obtain ⟨ha, ht⟩ := (resolveClass_links e.toSetting hl).op (op := VmOp.resolveClass f.method.cls z.catchType) rfl
  have hal : S.vm.Alike (S.vm.noted f.method.cls z.catchType (.cls cT)) := (Vm.Alike.refl S.vm).noted _ _ _
  obtain ⟨k1, hk1⟩ := hk
  obtain ⟨k2, hk2⟩ := hc
  obtain ⟨k3, hk3, -⟩ := hal.2.2 _ _ hk1
  obtain ⟨k4, hk4, -⟩ := hal.2.2 _ _ hk2
  cases hfit : S.vm.assignable cell.cls cT with
  | true =>
    have hfit' : (S.vm.noted f.method.cls z.catchType (.cls cT)).assignable cell.cls cT = true := by rw [hal.assignable]; exact hfit
    simp [findHandler.go, hz, h0, ha, ht, hcell, hobj, hk3, hk4, hfit', VmOp.dirties, VmOp.acts]
  | false =>
    have hfit' : (S.vm.noted f.method.cls z.catchType (.cls cT)).assignable cell.cls cT = false := by rw [hal.assignable]; exact hfit
    simp [findHandler.go, hz, h0, ha, ht, hcell, hobj, hk3, hk4, hfit', VmOp.dirties, VmOp.acts]
def xt_pass (pl : Platform) (s : State) (d : ClassId) (pc : Nat) (cl : ClassId) (z : ExceptionTableEntry) : Prop := covers z pc = true ∧ z.catchType ≠ 0 ∧ ∃ cT, s.vm.ClassLinks pl d z.catchType cT ∧ s.vm.assignable cl cT = false
theorem xt_find {e : Env} {s : State} {f : JFrame} {a : Addr} {cell : Cell} (hobj : ∀ k, cell.vm ≠ .statics k) (hk0 : ∃ k, s.vm.classes[cell.cls]? = some k) {z : ExceptionTableEntry} {rest : List ExceptionTableEntry} (hz : covers z f.pc = true) (h0 : z.catchType ≠ 0) {cT : ClassId} (hl : s.vm.ClassLinks e.platform f.method.cls z.catchType cT) (hfit : s.vm.assignable cell.cls cT = true) :
    ∀ (pre : List ExceptionTableEntry) (S : State), s.WarmedH S.vm → S.heap[a]? = some cell → (∀ y ∈ pre, xt_pass e.platform s f.method.cls f.pc cell.cls y) →
      ∃ vm', s.WarmedH vm' ∧ ∀ (Q : Handler → Pre) (E : CtlPost) (d : Bool) (acts : List Action), wp (findHandler.go f a (pre ++ z :: rest)) Q E e d acts S ↔ Q (.found z.handlerPc) d acts (S.setVm vm') := by
  have note : ∀ {y : ExceptionTableEntry} {cY : ClassId} {S : State}, s.WarmedH S.vm → s.vm.ClassLinks e.platform f.method.cls y.catchType cY → s.WarmedH (S.vm.noted f.method.cls y.catchType (.cls cY)) ∧ (∃ k, S.vm.classes[cell.cls]? = some k) ∧ ∃ k, S.vm.classes[cY]? = some k := by
    intro y cY S hW hly
    obtain ⟨dk, _, _, kt, hd, _, _, _, _, hkt, _, hopen⟩ := hly.here
    obtain ⟨kt', hkt', -⟩ := hW.alike.2.2 _ _ hkt
    obtain ⟨k0, hk0⟩ := hk0
    obtain ⟨k0', hk0', -⟩ := hW.alike.2.2 _ _ hk0
    exact ⟨hW.noted hd hopen (State.rightAt_cls hly), ⟨k0', hk0'⟩, ⟨kt', hkt'⟩⟩
  intro pre
  induction pre with
  | nil =>
    intro S hW hcell _
    obtain ⟨n1, n2, n3⟩ := note hW hl
    refine ⟨_, n1, fun Q E d acts => ?_⟩
    rw [List.nil_append, xt_row hz h0 (hW.classLinks hl) hcell hobj n2 n3, if_pos (by rw [hW.alike.assignable]; exact hfit)]
  | cons y ys ih =>
    intro S hW hcell hpass
    obtain ⟨q1, q2, cY, q3, q4⟩ := hpass y List.mem_cons_self
    obtain ⟨n1, n2, n3⟩ := note hW q3
    obtain ⟨vm', hW', hq⟩ := ih (S.setVm (S.vm.noted f.method.cls y.catchType (.cls cY))) n1 hcell (fun w hw => hpass w (List.mem_cons_of_mem _ hw))
    refine ⟨vm', hW', fun Q E d acts => ?_⟩
    rw [List.cons_append, xt_row q1 q2 (hW.classLinks q3) hcell hobj n2 n3, if_neg (by rw [hW.alike.assignable, q4]; decide)]
    exact hq Q E d acts
theorem xt_step {tb : Tables} {e : Env} {s target : State} {f : JFrame} {c : Code} {below : List Frame} {a : Addr} (h : At s f.method c below) {pc : Nat} {vm' : Vm}
    (hfind : ∀ (Q : Handler → Pre) (E : CtlPost) (d : Bool) (acts : List Action), wp (findHandler f a) Q E e d acts ((s.setTop f).pushFrame (.throwing a)) ↔ Q (.found pc) d acts (((s.setTop f).pushFrame (.throwing a)).setVm vm'))
    (hrest : Steps tb e below ((s.setVm vm').setTop { f with pc := pc, stack := [.ref a] }) target) : Steps tb e below ((s.setTop f).pushFrame (.throwing a)) target := by
  obtain ⟨hgo, hw⟩ := h.throwing a
  refine Steps.head hgo hw ?_
  have key : (stepThrowing e ((s.setTop f).pushFrame (.throwing a)) a (.java f :: s.frames.tail)).1 = (((s.setTop f).pushFrame (.throwing a)).setVm vm').setFrames (.java { f with pc := pc, stack := [.ref a] } :: s.frames.tail) := by
    simp only [stepThrowing, searchFrame, vmDo]
    generalize hr : Sem.go _ e false [] ((s.setTop f).pushFrame (.throwing a)) = res
    obtain ⟨as, rfl, ha⟩ := Sem.eq_ok_of hr (a := Handler.found pc) (s' := ((s.setTop f).pushFrame (.throwing a)).setVm vm') (acts' := []) (by simp [hfind _ _ _ _])
    rfl
  rw [stepThread_throwing (frames_entered h.top _), key]
  obtain ⟨g₀, hg⟩ := Option.isSome_iff_exists.mp h.top
  obtain ⟨r, hr⟩ := State.topJava?_eq_some.mp hg
  have hr' : (s.setVm vm').frames = .java g₀ :: r := hr
  rw [State.setTop_of_frames _ hr'] at hrest
  have e1 : ∀ (F G : List Frame) (u : State), ((u.setFrames F).setVm vm').setFrames G = (u.setVm vm').setFrames G := by
    intro F G u
    rw [show (u.setFrames F).setVm vm' = (u.setVm vm').setFrames F from rfl, State.setFrames_setFrames]
  rw [State.pushFrame, e1, State.setTop_of_frames _ hr, e1, hr]
  exact hrest
-- a call whose callee throws, caught by the caller's own table
section XTC
variable {p : Program} {l : Launch} {e : Env} {R : Room} {s : State} {m : MethodId} {args : Array Value} {below : List Frame} {meth : Method} {c : Code} {T : State} {H : Heap} {locs : List Loc} {cells slots : Nat} {Q : State → Prop}
variable {cc : ByteArray} {pc nL : Nat} {ls : Array Slot} {rest st0 : List Value} {g : xg_G} {A : Nat → Prop} {a : Nat} {ws wc wr : va_W} {y : MethodName} {b : ByteArray} {n idx : Nat} {ret : Option FieldType} {rm : Room} {own C X : String} {av As : List Value} {k1 k2 : Nat}
theorem xt_out (Z : Stand p l e R s m args below meth c T locs cells slots) (hts : ∀ w ∈ xt_T, w.before args s = true) (hcode : Cond.code y b n ret ∈ xt_T) (hini : Cond.initialized y.cls ∈ xt_T) (hM : kc_T l y b n ret rm g av wc X) (hp : kc_P g av wc T.heap.size av.toArray T)
    {f : JFrame} (hg : f.method = m) (hsize : f.locals.size = c.maxLocals) {ig : Instr} {len : Nat} (hdg : decode c.code f.pc = .ok (ig, len)) {mk : MethodId} (hn : s.methodNamed? y = some mk) (hrm : rm.frames + 1 ≤ R.frames ∧ 8 + (n + 11) + rm.locals ≤ R.locals) (hc : cells + rm.cells ≤ R.cells) (hs : slots + rm.slots ≤ R.slots) (hW : 2 * f.monitorRoom + (f.stack.map fun v => v.category).sum ≤ 8) :
    ∃ (x : Addr) (ce : Cell) (T' : State) (L : List Loc), Stand p l e R s m args below meth c T' (locs ++ L) (cells + rm.cells) (slots + rm.slots) ∧ (∀ q ∈ L, va_A wc T.heap.size q.base) ∧ T'.heap[x]? = some ce ∧ ce.vm = .none ∧ s.vm.findClass X = some ce.cls ∧ s.vm.assignable ce.cls ce.cls = true ∧ T.heap.size ≤ T'.heap.size ∧ (∀ q : Nat, q < T.heap.size → ¬ va_A wc T.heap.size q → T'.heap[q]? = T.heap[q]?) ∧
      Steps p.tables e below (doInvoke e (T.setTop f) [] mk av.toArray).1 ((T'.setTop f).pushFrame (.throwing x)) := by
  have hnT : T.methodNamed? y = some mk := Z.named hn
  have h2 : (Cond.code y b n ret).before av.toArray T = true := word_at Z.warmed (xt_good hcode) (hts _ hcode)
  have h3 : (Cond.initialized y.cls).before av.toArray T = true := word_at Z.warmed (xt_good hini) (hts _ hini)
  have hpre : (headSpec (.code y b n ret :: xt_T) rm).pre.before av.toArray T = true := atoms_intro (fun w hw => by
    rcases List.mem_cons.mp hw with rfl | hw
    · exact h2
    · exact word_at Z.warmed (xt_good hw) (hts _ hw))
  obtain ⟨methY, cY, hmY, hcY, -, hlY, -⟩ := Cond.code_spec hnT h2
  obtain ⟨kY, hkY, -⟩ := className_of_methodNamed hnT
  have hinitY : kY.init = .initialized := Cond.initialized_spec (findClass_of_methodNamed hnT) hkY h3
  have h : At T f.method c below := by rw [hg]; exact Z.here
  have happ : (headSpec (.code y b n ret :: xt_T) rm).appliesLoose y e.platform (T.calling f mk av.toArray) = true :=
    Spec.appliesLoose_calling (g := f) h hdg hnT hkY hinitY (Z.room_calling (g := f) (R' := (headSpec (.code y b n ret :: xt_T) rm).room) hsize hmY hcY hrm.1 (by rw [hlY]; have := hrm.2; show _ + _ + _ + rm.locals ≤ _; omega) hc hs) hpre
  obtain ⟨mid, hmid⟩ := h.above
  have hfr : (T.setTop f).frames = (.java f :: mid) ++ below := by rw [State.frames_setTop' f h.top, hmid]; rfl
  obtain ⟨o, s₂, hsteps, -, hend, hq⟩ := Jvm.Free.Steps.callFree (hM T.heap.size) p Z.admits Z.cas Z.clock (acts := []) hfr happ (kc_blind _ _ f mk hp) trivial
  rw [State.frames_setTop' f h.top, Z.tail] at hend
  obtain ⟨x, ce, L, rfl, q2, q3, q4, q5, q6, q7, q8⟩ := hq
  have hF := xt_kept q7 q8
  obtain ⟨T', Z', hWT, hsm, hs2⟩ := Z.outOfThrown hg (mk := mk) (a := av.toArray) hend q6 q7
  have hheap : s₂.heap = T'.heap := by rw [hs2, Stand.throwing_heap]
  have hal := Z.warmed.alike
  refine ⟨x, ce, T', L, Z', q8, by rw [← hheap]; exact q2, q3, ?_, ?_, by rw [← hheap]; exact hF.1, fun q h1 h2 => by rw [← hheap]; exact hF.2 q h1 h2, ?_⟩
  · have h9 : T.vm.findClass X = some ce.cls := q4
    rw [hal.findClass] at h9; exact h9
  · have h9 : T.vm.assignable ce.cls ce.cls = true := q5
    rw [hal.assignable] at h9; exact h9
  · rw [← hs2]; exact hsteps
theorem xc_VT (F : xf_F g p m c cc nL s args own A) (hP : va_P g.1 vwCl ws H) (hD : va_D A ws) (hS : va_S A s.heap H locs) (hM : kc_T l y b n ret rm g (.ref a :: As) wc X) (hT : GoodIn xt_T (wsV own idx C y (.code y b n ret :: xt_T))) {k : Nat} (hd : y.cls = C ∧ y.cls ≠ "java/lang/invoke/MethodHandle" ∧ y.cls ≠ "java/lang/invoke/VarHandle" ∧ (parseMethodDescriptor y.desc).map (fun d => d.parameters.length) = some k) (q0 : Nat) {ci : Nat} {fs : List Value} {q : vw_C} (hc : vwCl[ci]? = some q) (he : ws[q0]? = some (oc_o a ci fs)) (hq : q.1 = C) (isC isR : List Nat) (hpl : xf_P ws wc wr isC isR) (hrm : xf_R R rm n cells slots k1 k2) (hlen : As.length = k) (hsz : ls.size = nL) (hst : st0 = As.reverse ++ .ref a :: rest) (hW : (rest.map fun v => v.category).sum ≤ 8) (hdg : decode cc pc = .ok (.invokevirtual idx, 3))
    {pre : List (Nat × Nat × Nat × Nat)} {z : Nat × Nat × Nat × Nat} {post : List (Nat × Nat × Nat × Nat)} (htab : c.exceptionTable.toList.map (fun h => (h.startPc, h.endPc, h.handlerPc, h.catchType)) = pre ++ z :: post) (hpre : ∀ r ∈ pre, (r.1 ≤ pc ∧ pc < r.2.1) ∧ r.2.2.2 ≠ 0 ∧ ∃ nm, Cond.classLink own r.2.2.2 nm ∈ xt_T ∧ va_Nc X nm s) (hz : (z.1 ≤ pc ∧ pc < z.2.1) ∧ z.2.2.2 ≠ 0) (hzl : Cond.classLink own z.2.2.2 X ∈ xt_T)
    (kk : ∀ (x : Nat) (H1 : Heap) (locs1 : List Loc), va_P g.1 vwCl wr H1 → va_D A wr → va_S A s.heap H1 locs1 → W p l e R s m args below meth c H1 locs1 k1 k2 Q (F0 m z.2.2.1 ls [.ref x])) : W p l e R s m args below meth c H locs cells slots Q (F0 m pc ls st0) := by
  obtain ⟨⟨hx, hb, hml, hown, hts⟩, hE, hK, hA⟩ := F
  obtain ⟨hC, hR, hnC, hnR, hdis⟩ := hpl
  obtain ⟨hrm, h1, h2, h3, h4⟩ := hrm
  subst h1; subst h2; subst hst
  obtain ⟨hC0, hy⟩ := hd
  have ok : ∀ w ∈ wsV own idx C y (.code y b n ret :: xt_T), w ∈ xt_T := fun w h => (hT w h).1
  have hlink := hts _ (ok (.methodLink own idx y) (by simp [wsV]))
  have hinst := hts _ (ok (.instanceMethod y) (by simp [wsV]))
  have hsel := hts _ (ok (.selects C y y) (by simp [wsV]))
  have hini : Cond.initialized y.cls ∈ xt_T := ok (.initialized y.cls) (by rw [hC0]; simp [wsV])
  have hcode : Cond.code y b n ret ∈ xt_T := ok (.code y b n ret) (by simp [wsV])
  have hF := va_free (wc := wc) hD hS hA isC hC
  obtain ⟨-, ⟨cellB, hcB, hoB, hclB⟩, hPc⟩ := xc_preV (As := As) hE hK hP hD hS hA isC hC hnC q0 hc he hq
  intro T hT Z
  subst hT
  obtain ⟨mk, methM, hnamed, hmethM, hstM, habM⟩ := Cond.instanceMethod_spec hinst
  obtain ⟨methM', cM, hmethM', -, -, -, -, -, -, hsigM⟩ := Cond.code_spec hnamed (hts _ hcode)
  cases hmethM.symm.trans hmethM'
  obtain ⟨c2, r2, m2, u1, u2, u3, u4, kP, hkP, hkPi⟩ := Cond.selects_spec hsel
  cases hclB.symm.trans u1
  cases (State.methodFound?_of_named hnamed ⟨hy.1, hy.2.1⟩).symm.trans u2
  cases hnamed.symm.trans u3
  have hselP : selectMethod e.platform s.vm cellB.cls mk = .method mk := by rw [Launch.admits_selectMethod Z.admits]; exact u4
  have hk : As.length = methM.sig.parameters.length := by
    have h9 := hy.2.2
    rw [hsigM] at h9
    rw [hlen]; exact (Option.some.inj h9).symm
  obtain ⟨vm₁, Z₁, hstep₁⟩ := Z.invokevirtual hx hown hlink hnamed hmethM hstM hkP hkPi ⟨hy.1, hy.2.1⟩ (a := a) (cell := cellB) hcB (fun w h => by rw [h] at hoB; cases hoB) hselP hmethM habM hkP hkPi (g := F0 m pc ls (As.reverse ++ .ref a :: rest)) rfl (argsL := As) (rest := rest) hk rfl (by rw [hb]; exact hdg)
  obtain ⟨x, ce, T', L, Z', hL, q2, q3, q4, q5, q6, q7, hsteps⟩ := xt_out (g := g) (av := .ref a :: As) (wc := wc) Z₁ hts hcode hini hM (hPc _ rfl Z₁.warmed) (f := F0 m pc ls rest) rfl (hsz.trans hml.symm) (ig := .invokevirtual idx) (len := 3) (by rw [hb]; exact hdg) hnamed hrm h3 h4 (lv_room hW)
  have hpl : e.platform.magicAccessors = ({} : Platform).magicAccessors := by rw [Z.admits.platform]
  -- the table's rows
  obtain ⟨preE, restE, hsplit, hmp, hmr⟩ := List.map_eq_append_iff.mp htab
  obtain ⟨zE, postE, hsplit2, hmz, hmo⟩ := List.map_eq_cons_iff.mp hmr
  obtain ⟨cT, hcT, hcl⟩ := Cond.classLink_spec hown (hts _ hzl) e.platform hpl
  have hzE : zE.startPc = z.1 ∧ zE.endPc = z.2.1 ∧ zE.handlerPc = z.2.2.1 ∧ zE.catchType = z.2.2.2 := by rw [← hmz]; exact ⟨rfl, rfl, rfl, rfl⟩
  have hcTe : ce.cls = cT := Option.some.inj (q4.symm.trans hcT)
  have hk0 : ∃ k, s.vm.classes[ce.cls]? = some k := Vm.classAt_of_findClass q4
  obtain ⟨vm', hW', hfind⟩ := xt_find (e := e) (s := s) (f := F0 m pc ls rest) (a := x) (cell := ce) (fun k h => by rw [q3] at h; cases h) hk0 (z := zE) (rest := postE) (by simp [covers, hzE, hz]) (by rw [hzE.2.2.2]; exact hz.2) (cT := cT) (by rw [hzE.2.2.2]; exact hcl) (by rw [← hcTe]; exact q5) preE ((T'.setTop (F0 m pc ls rest)).pushFrame (.throwing x)) (by rw [Stand.throwing_vm]; exact Z'.warmed) (by rw [Stand.throwing_heap]; exact q2) (by
    intro w hw
    obtain ⟨r1, r2, nm, r3, r4⟩ := hpre _ (by rw [← hmp]; exact List.mem_map_of_mem hw)
    obtain ⟨c9, hc9, hcl9⟩ := Cond.classLink_spec hown (hts _ r3) e.platform hpl
    obtain ⟨c8, t8, g1, g2, g3⟩ := r4
    cases q4.symm.trans g1
    cases hc9.symm.trans g2
    exact ⟨by simpa [covers] using r1, r2, c9, hcl9, g3⟩)
  have Z9 : Stand p l e R s m args below meth c (T'.setVm vm') (locs ++ L) (cells + rm.cells) (slots + rm.slots) := Z'.noted hW'
  have hheap : ∀ q : Nat, q < T.heap.size → ¬ va_A wc T.heap.size q → T'.heap[q]? = T.heap[q]? := q7
  have hP9 : va_P g.1 vwCl wr T'.heap ∧ va_D A wr := by
    obtain ⟨j1, j2⟩ := va_join (wr := wr) (w1 := []) hP hD isC isR hC hR hnR hdis hheap hF (fun k q h => by cases h) ⟨fun i j p q h => (by cases h), fun k q h => (by cases h)⟩
    rw [List.append_nil] at j1 j2
    exact ⟨j1, j2⟩
  have hS9 : va_S A s.heap T'.heap (locs ++ L) := by
    refine ⟨Nat.le_trans hS.1 q6, fun q h1 h2 => ?_, fun q hq => ?_⟩
    · rw [q7 q (Nat.lt_of_lt_of_le h1 hS.1) (fun z => h2 (hF q z))]; exact hS.2.1 q h1 h2
    · rcases List.mem_append.mp hq with h | h
      · exact hS.2.2 q h
      · exact hF _ (hL q h)
  obtain ⟨t, a1, b1⟩ := kk x T'.heap (locs ++ L) hP9.1 hP9.2 hS9 (T'.setVm vm') rfl Z9
  refine ⟨t, ?_, b1⟩
  refine hstep₁ t (fun acts => ?_)
  rw [doInvoke_state]
  refine hsteps.trans (xt_step Z'.here (vm' := vm') (pc := z.2.2.1) (fun Q E d acts => ?_) a1)
  rw [W.findHandler_eq (meth := meth) (code := c) (by rw [Stand.throwing_vm]; exact Z'.method') Z'.code, hsplit, hsplit2, hfind, hzE.2.2.1]
end XTC
end
section
-- numbers of the symbol
def xr_hh (w c : Nat) : Nat := max 3 ((w + c - 1) / c)
def xr_min (w c : Nat) : Nat := min 91 (xr_hh w c)
theorem xr_lo (w c : Nat) : 3 ≤ xr_min w c := by unfold xr_min xr_hh; omega
theorem xr_hi (w c : Nat) : xr_min w c ≤ 91 := by unfold xr_min; omega
theorem xr_le {w c i : Nat} (hc : 1 ≤ c) : (w + c - 1) / c ≤ i ↔ w ≤ i * c := by
  rw [Nat.div_le_iff_le_mul_add_pred (by omega), Nat.mul_comm]
  omega
theorem xr_up {w c r i : Nat} (hc : 1 ≤ c) (hr : r = xr_min w c) (h : i * c < w) (h2 : i ≤ 90) : i + 1 ≤ r := by
  have h3 : ¬ (w + c - 1) / c ≤ i := fun q => by have := (xr_le hc).mp q; omega
  rw [hr]; unfold xr_min xr_hh
  omega
theorem xr_end {w c r i : Nat} (hc : 1 ≤ c) (hr : r = xr_min w c) (h3 : 3 ≤ i) (hi : i ≤ r) (h : 90 < i ∨ w ≤ i * c) : nI i = nI r := by
  have h91 : r ≤ 91 := by rw [hr]; exact xr_hi w c
  rcases h with h | h
  · exact congrArg nI (by omega)
  · have h4 := (xr_le (i := i) hc).mpr h
    refine congrArg nI ?_
    rw [hr] at hi ⊢
    unfold xr_min xr_hh at hi ⊢
    omega
theorem xr_cap {w c r r9 : Nat} (hr : r = xr_hh w c) (h9 : r9 = xr_min w c) : (r ≤ 90 ∧ r9 = r) ∨ (90 < r ∧ r9 = 91) := by
  rw [h9]; unfold xr_min; rw [← hr]; omega
theorem xr_low {w c r : Nat} (hr : r = xr_hh w c) (h : r ≤ 90) : r = xr_min w c := by
  unfold xr_min; rw [← hr]; omega
theorem xr_a {K c r : Nat} (hr : r = xr_hh (1 + K) c) (h : (1 + K + c - 1) / c < 3) : 3 = r := by
  rw [hr]; unfold xr_hh; omega
theorem xr_b {K c r : Nat} (hr : r = xr_hh (1 + K) c) (h : 3 ≤ (1 + K + c - 1) / c) : (1 + K + c - 1) / c = r := by
  rw [hr]; unfold xr_hh; omega
theorem xr_shl {L K : Nat} (hL : L ≤ 8) (hK : K = 2 ^ (L + 1)) : nI 2 <<< (nI L &&& 31) = nI K := by
  subst hK
  rcases (show L = 0 ∨ L = 1 ∨ L = 2 ∨ L = 3 ∨ L = 4 ∨ L = 5 ∨ L = 6 ∨ L = 7 ∨ L = 8 by omega) with rfl | rfl | rfl | rfl | rfl | rfl | rfl | rfl | rfl <;> decide
theorem xr_K {L K : Nat} (hL : L ≤ 8) (hK : K = 2 ^ (L + 1)) : 2 ≤ K ∧ K ≤ 512 := by
  subst hK
  rcases (show L = 0 ∨ L = 1 ∨ L = 2 ∨ L = 3 ∨ L = 4 ∨ L = 5 ∨ L = 6 ∨ L = 7 ∨ L = 8 by omega) with rfl | rfl | rfl | rfl | rfl | rfl | rfl | rfl | rfl <;> decide
theorem xr_iw {r c : Nat} (hr : r ≤ 90) (h : r * c ≤ 928) : r * (c + 2) ≤ 1108 := by
  rw [Nat.mul_add]; omega
theorem xr_ix {r c i j : Nat} (hi : i < r) (hj : j ≤ c + 1) (hr : r ≤ 90) (h : r * c ≤ 928) : i * (c + 2) + j < 1108 := by
  have h1 := xr_iw hr h
  have h2 : (i + 1) * (c + 2) ≤ r * (c + 2) := Nat.mul_le_mul_right _ hi
  rw [Nat.add_mul] at h2
  omega
theorem xr_iy {r c i j : Nat} (hi : i < r) (hj1 : 1 ≤ j) (hj : j ≤ c) : i * c + j ≤ r * c := by
  have h2 : (i + 1) * c ≤ r * c := Nat.mul_le_mul_right _ hi
  rw [Nat.add_mul] at h2
  omega
theorem xr_iz {r c i : Nat} (hc : 1 ≤ c) (hi : i < r * c) (hr : r ≤ 90) (h : r * c ≤ 928) : i / c * (c + 2) + (1 + i % c) < 1108 := by
  have h1 : i / c < r := (Nat.div_lt_iff_lt_mul (by omega)).mpr hi
  have h2 : i % c < c := Nat.mod_lt _ (by omega)
  exact xr_ix h1 (by omega) hr h
theorem xr_n2 {K c r : Nat} (hc : 1 ≤ c) (hr : r = xr_hh (1 + K) c) : K + 1 ≤ r * c := by
  have h1 : (1 + K + c - 1) / c ≤ r := by rw [hr]; unfold xr_hh; omega
  have := (xr_le hc).mp h1
  omega
theorem xr_w {K c r : Nat} (hc : 1 ≤ c) (hK : K ≤ 512) (hr : r = xr_hh (1 + K) c) : r ≤ 513 := by
  have h1 : (1 + K + c - 1) / c ≤ 513 := (xr_le hc).mpr (by
    have : 513 * 1 ≤ 513 * c := Nat.mul_le_mul_left _ hc
    omega)
  rw [hr]; unfold xr_hh; omega
theorem xq_nat {x : Int32} (h : 0 ≤ x.toInt) : ∃ k : Nat, x = nI k ∧ x.toInt = (k : Int) := by
  obtain ⟨j, hj, e⟩ := nI_of (x := x) (fun h2 => by
    have := Int32.lt_iff_toInt_lt.mp h2
    have h3 : (0 : Int32).toInt = 0 := rfl
    omega)
  exact ⟨j, e, by rw [e, nI_toInt hj]⟩
-- a static that holds a reference or null
theorem xs_nar {C : String} {v : Value} (h : v = .null ∨ ∃ t, v = .ref t) : narrow (.object C) v = v := by
  rcases h with rfl | ⟨t, rfl⟩ <;> rfl
theorem xs_fit {C : String} {v : Value} (h : v = .null ∨ ∃ t, v = .ref t) : fits (.object C) v = true := by
  rcases h with rfl | ⟨t, rfl⟩ <;> rfl
section XM
variable {p : Program} {l : Launch} {e : Env} {R : Room} {s : State} {m : MethodId} {args : Array Value} {below : List Frame} {meth : Method} {c : Code} {H : Heap} {locs : List Loc} {cells slots : Nat} {Q : State → Prop}
variable {cc : ByteArray} {pc nL : Nat} {ls : Array Slot} {rest st0 : List Value} {g : xg_G} {A : Nat → Prop}
theorem xs_get (hx : p.tables.exec = Jvm.exec) (hb : c.code = cc) {C n d own ref : String} {index : Nat} (hZ : va_Zq C n d A s s.heap) (hS : va_S A s.heap H locs) (hown : s.vm.findClass own = some m.cls) (hlink : (Cond.fieldLink own index ref n d).before args s = true) (hsame : ∀ x, s.fieldFound? C n d = some x → s.fieldFound? ref n d = some x) (hdg : decode cc pc = .ok (.getstatic index, 3))
    (kk : ∀ v : Value, (v = .null ∨ ∃ t, v = .ref t) → W p l e R s m args below meth c H locs cells slots Q (F0 m (pc + 3) ls (v :: rest))) : W p l e R s m args below meth c H locs cells slots Q (F0 m pc ls rest) := by
  rcases hZ with h | ⟨t, h⟩
  · exact va_gets hx hb h hS hown hlink hsame hdg (kk _ (Or.inl rfl))
  · exact va_gets hx hb h hS hown hlink hsame hdg (kk _ (Or.inr ⟨t, rfl⟩))
theorem xo_init (hx : p.tables.exec = Jvm.exec) (hb : c.code = cc) {own : String} (hown : s.vm.findClass own = some m.cls) {idx : Nat} (hlink : (Cond.methodLink own idx Lib.objectInit).before args s = true) (hinst : (Cond.instanceMethod Lib.objectInit).before args s = true) (hcode : (Cond.code Lib.objectInit ⟨#[0xb1]⟩ 1 none).before args s = true) (hml : c.maxLocals = nL) (hsz : ls.size = nL) {a : Nat} (hf : 1 ≤ R.frames) (hlo : (rest.map fun v => v.category).sum + 12 ≤ R.locals) (hd : decode cc pc = .ok (.invokespecial idx, 3))
    (kk : W p l e R s m args below meth c H locs cells slots Q (F0 m (pc + 3) ls rest)) : W p l e R s m args below meth c H locs cells slots Q (F0 m pc ls (.ref a :: rest)) :=
  W.objInit hx hb hown hlink hinst hcode (g := F0 m pc ls (.ref a :: rest)) rfl (hsz.trans hml.symm) rfl hd hf (by show 2 * 0 + _ + 12 ≤ _; omega) kk
/-- the script's ints, by a natural index -/
theorem xa_scr (hx : p.tables.exec = Jvm.exec) (hb : c.code = cc) {b L : Nat} {xs : Nat → Int32} (hX : va_X b L xs s s.heap) (hbl : b < s.heap.size) (hbA : ¬ A b) (hS : va_S A s.heap H locs) {j : Nat} (hj : j < L) (hL : L < 2 ^ 31) (hdg : decode cc pc = .ok (.iaload, 1)) (kk : W p l e R s m args below meth c H locs cells slots Q (F0 m (pc + 1) ls (.int (xs j) :: rest))) : W p l e R s m args below meth c H locs cells slots Q (F0 m pc ls (.int (nI j) :: .ref b :: rest)) :=
  va_sld hx hb hX hbl hbA hS (vp_in_nI hj hL) hdg (by rw [nI_clamp (Nat.lt_trans hj hL)]; exact kk)
end XM
-- a method with a table of handlers
def kc_W (l : Launch) (y : MethodName) (b : ByteArray) (n : Nat) (rm : Room) (hh : List (Nat × Nat × Nat × Nat)) (g : xg_G) (av : List Value) (ws : va_W) {S : Type} (post : Int32 → S → Prop) (ws' : S → va_W) : Prop :=
  ∀ sz : Nat, Met l y (.codeWith y b n (some .int) hh :: xt_T) rm (kc_P g av ws sz) (va_Qi post (kc_B g (va_A ws sz) ws') (va_A ws sz)) rm.cells rm.slots (va_A ws sz)
theorem kc_Wof {l : Launch} {y : MethodName} {b : ByteArray} {n : Nat} {rm : Room} {hh : List (Nat × Nat × Nat × Nat)} {g : xg_G} {av : List Value} {ws : va_W} {S : Type} {post : Int32 → S → Prop} {ws' : S → va_W} (hy : plainName y.cls = true) (hal : (lg_sl av).length ≤ n)
    (body : ∀ (p : Program) (e : Env) (s : State) (m : MethodId) (args : Array Value) (below : List Frame) (meth : Method) (c : Code) (A : Nat → Prop) (ls : Array Slot) (Q : State → Prop) (H : Heap) (locs : List Loc), (∀ t, MQ below (va_Qi post (kc_B g A ws') A) args s rm.cells rm.slots A t → Q t) → xb_B g y b n (some .int) av ws p s m args meth c A ls → va_P g.1 vwCl ws H → va_S A s.heap H locs → c.exceptionTable.toList.map (fun h => (h.startPc, h.endPc, h.handlerPc, h.catchType)) = hh → W p l e rm s m args below meth c H locs 0 0 Q (F0 m 0 ls [])) : kc_W l y b n rm hh g av ws post ws' := by
  intro sz
  refine va_MetW (cc := b) (maxL := n) (ret := some .int) (hh := hh) hy rfl ?_
  intro p e s m args below meth c s₁ B hml hv
  obtain ⟨m9, meth9, c9, q1, q2, q3, -, -, q4, -⟩ := Cond.codeWith_spec (atoms_spec (ws := .codeWith y b n (some .int) hh :: xt_T) B.pre _ List.mem_cons_self)
  cases B.named.symm.trans q1
  cases B.method.symm.trans q2
  cases (Stand.of_body B).code.symm.trans q3
  obtain ⟨ls, e1, -, hP, hB⟩ := xb_get hal B hml hv
  rw [e1]
  exact body p e s m args below meth c _ ls _ _ _ (fun _ h => h) hB hP va_S.rf q4
section XW
variable {p : Program} {l : Launch} {e : Env} {R : Room} {s : State} {m : MethodId} {args : Array Value} {below : List Frame} {meth : Method} {c : Code} {H : Heap} {locs : List Loc} {cells slots : Nat} {Q : State → Prop}
variable {cc : ByteArray} {pc nL : Nat} {ls : Array Slot} {rest st0 : List Value} {g : xg_G} {A : Nat → Prop} {a : Nat} {ws wc wr : va_W} {S : Type} {ws' : S → va_W} {y : MethodName} {b : ByteArray} {n idx : Nat} {rm : Room} {own : String} {As : List Value} {k1 k2 : Nat} {hh : List (Nat × Nat × Nat × Nat)}
theorem xc_SWi {post : Int32 → S → Prop} (F : xf_F g p m c cc nL s args own A) (hP : va_P g.1 vwCl ws H) (hD : va_D A ws) (hS : va_S A s.heap H locs) (hM : kc_W l y b n rm hh g As wc post ws') (hcode : Cond.codeWith y b n (some .int) hh ∈ xt_T) (hini : Cond.initialized y.cls ∈ xt_T) (hlk : Cond.methodLink own idx y ∈ xt_T) (hst9 : Cond.static y ∈ xt_T) {k : Nat} (hd : y.cls ≠ "java/lang/invoke/MethodHandle" ∧ y.cls ≠ "java/lang/invoke/VarHandle" ∧ (parseMethodDescriptor y.desc).map (fun d => d.parameters.length) = some k) (isC isR : List Nat) (hpl : xf_P ws wc wr isC isR) (hrm : xf_R R rm n cells slots k1 k2) (hlen : As.length = k) (hsz : ls.size = nL) (hst : st0 = As.reverse ++ rest) (hW : (rest.map fun v => v.category).sum ≤ 8) (hdg : decode cc pc = .ok (.invokestatic idx, 3))
    (kk : ∀ (r : Int32) (u : S) (H1 : Heap) (locs1 : List Loc), post r u → va_P g.1 vwCl (wr ++ ws' u) H1 → va_D A (wr ++ ws' u) → va_S A s.heap H1 locs1 → W p l e R s m args below meth c H1 locs1 k1 k2 Q (F0 m (pc + 3) ls (.int r :: rest))) : W p l e R s m args below meth c H locs cells slots Q (F0 m pc ls st0) := by
  obtain ⟨⟨hx, hb, hml, hown, hts⟩, hE, hK, hA⟩ := F
  obtain ⟨hC, hR, hnC, hnR, hdis⟩ := hpl
  obtain ⟨hrm, h1, h2, h3, h4⟩ := hrm
  have hpre := xc_pre (av := As) hE hK hP hD hS hA isC hC hnC
  have hG : GoodIn xt_T (.codeWith y b n (some .int) hh :: xt_T) := fun w hw => by
    rcases List.mem_cons.mp hw with rfl | hw
    · exact ⟨hcode, xt_good hcode⟩
    · exact ⟨hw, xt_good hw⟩
  have hBk : Back l R p e below s args y 3 8 (PreOf R rm.cells rm.slots (kc_P g As wc H.size)) (PostOf (va_Qi post (kc_B g (va_A wc H.size) ws') (va_A wc H.size)) rm.cells rm.slots (va_A wc H.size)) :=
    va_backW (hh := hh) (bytes := b) (maxL := n) (ret := some .int) (hM H.size) kc_blind rfl rfl hrm.1 hrm.2 (pay_in hts hG) List.mem_cons_self (fun a' U hW => word_at hW (xt_good hini) (hts _ hini))
  refine xc_iG (rm := rm) (wc := wc) (rest := rest) (av := As.toArray) ?_ hP hD hS hA isC isR hC hR hnR hdis h1 h2 kk
  intro T hT Z
  obtain ⟨mk, methM, cM, hnamed, hmethM, hcodeM, -, -, -, -, -, hsigM⟩ := Cond.codeWith_spec (hts _ hcode)
  have hstatic : methM.isStatic = true := Cond.static_spec hnamed hmethM (hts _ hst9)
  obtain ⟨kP, hkP, -⟩ := className_of_methodNamed hnamed
  have hinitP : kP.init = .initialized := Cond.initialized_spec (findClass_of_methodNamed hnamed) hkP (hts _ hini)
  have hk : As.length = methM.sig.parameters.length := by
    have h9 := hd.2.2
    rw [hsigM] at h9
    rw [hlen]; exact (Option.some.inj h9).symm
  subst hst
  obtain ⟨vm₁, Z₁, hstep₁⟩ := Z.invokestatic hx hown (hts _ hlk) hnamed hmethM hstatic hkP hinitP ⟨hd.1, hd.2.1⟩ (g := F0 m pc ls (As.reverse ++ rest)) rfl (argsL := As) (rest := rest) hk rfl (by rw [hb]; exact hdg)
  obtain ⟨v, ⟨U', l2, c2, s2⟩, Z', ⟨g', mk', t, L, e1, e2, hq, w1, hL, w2, w3⟩, hsteps⟩ := hBk m meth c ⟨T.setVm vm₁, locs, cells, slots⟩ (F0 m pc ls rest) (.invokestatic idx) mk As.toArray Z₁ rfl (hsz.trans hml.symm) (by rw [hb]; exact hdg) (lv_room hW) (Z₁.named hnamed) ⟨by rw [h1]; exact h3, by rw [h2]; exact h4, hpre.2 (T.setVm vm₁) hT Z₁.warmed⟩
  dsimp only [Pt.U, Pt.locs, Pt.cells, Pt.slots] at Z' e1 e2 w1 w2 w3 hsteps
  subst w1; subst w2; subst w3
  exact ⟨v, (T.setVm vm₁).calling g' mk' As.toArray, t, U', L, hT, Z', hL, e1, e2, hq, fun target h => hstep₁ _ fun acts => by rw [doInvoke_state]; exact hsteps.trans h⟩
end XW
end
section
section XX
variable {p : Program} {l : Launch} {e : Env} {R : Room} {s : State} {m : MethodId} {args : Array Value} {below : List Frame} {meth : Method} {c : Code} {H : Heap} {locs : List Loc} {cells slots : Nat} {Q : State → Prop}
variable {cc : ByteArray} {pc nL : Nat} {ls : Array Slot} {rest : List Value} {g : xg_G} {A : Nat → Prop} {a : Nat} {ws : va_W} {k1 k2 : Nat}
theorem gs_RD_35 (hx : p.tables.exec = Jvm.exec) (hb : c.code = cc) (hts : ∀ w ∈ xt_T, w.before args s = true) (hown : s.vm.findClass "StackedRows$Reader" = some m.cls) (hE : xe_E A s s.heap) (hS : va_S A s.heap H locs) (hdg : decode cc pc = .ok (.getstatic 35, 3)) (kk : ∀ v : Value, (v = .null ∨ ∃ t, v = .ref t) → W p l e R s m args below meth c H locs cells slots Q (F0 m (pc + 3) ls (v :: rest))) : W p l e R s m args below meth c H locs cells slots Q (F0 m pc ls rest) :=
  xs_get hx hb hE.2.2.1 hS hown (hts _ fl_RD_35) (fun _ h9 => h9) hdg kk
theorem gs_TW_15 (hx : p.tables.exec = Jvm.exec) (hb : c.code = cc) (hts : ∀ w ∈ xt_T, w.before args s = true) (hown : s.vm.findClass "StackedRows$TextWriter" = some m.cls) (hE : xe_E A s s.heap) (hS : va_S A s.heap H locs) (hdg : decode cc pc = .ok (.getstatic 15, 3)) (kk : ∀ v : Value, (v = .null ∨ ∃ t, v = .ref t) → W p l e R s m args below meth c H locs cells slots Q (F0 m (pc + 3) ls (v :: rest))) : W p l e R s m args below meth c H locs cells slots Q (F0 m pc ls rest) :=
  xs_get hx hb hE.2.2.1 hS hown (hts _ fl_TW_15) (fun _ h9 => h9) hdg kk
theorem oi_BN_1 (hx : p.tables.exec = Jvm.exec) (hb : c.code = cc) (hts : ∀ w ∈ xt_T, w.before args s = true) (hown : s.vm.findClass "StackedRows$BigNumber" = some m.cls) (hml : c.maxLocals = nL) (hsz : ls.size = nL) (hf : 1 ≤ R.frames) (hlo : (rest.map fun v => v.category).sum + 12 ≤ R.locals) (hd : decode cc pc = .ok (.invokespecial 1, 3)) (kk : W p l e R s m args below meth c H locs cells slots Q (F0 m (pc + 3) ls rest)) : W p l e R s m args below meth c H locs cells slots Q (F0 m pc ls (.ref a :: rest)) :=
  xo_init hx hb hown (hts _ ml_BN_1) (hts _ woi) (hts _ woc) hml hsz hf hlo hd kk
theorem oi_CK_3 (hx : p.tables.exec = Jvm.exec) (hb : c.code = cc) (hts : ∀ w ∈ xt_T, w.before args s = true) (hown : s.vm.findClass "StackedRows$Checks" = some m.cls) (hml : c.maxLocals = nL) (hsz : ls.size = nL) (hf : 1 ≤ R.frames) (hlo : (rest.map fun v => v.category).sum + 12 ≤ R.locals) (hd : decode cc pc = .ok (.invokespecial 3, 3)) (kk : W p l e R s m args below meth c H locs cells slots Q (F0 m (pc + 3) ls rest)) : W p l e R s m args below meth c H locs cells slots Q (F0 m pc ls (.ref a :: rest)) :=
  xo_init hx hb hown (hts _ ml_CK_3) (hts _ woi) (hts _ woc) hml hsz hf hlo hd kk
theorem oi_CW_3 (hx : p.tables.exec = Jvm.exec) (hb : c.code = cc) (hts : ∀ w ∈ xt_T, w.before args s = true) (hown : s.vm.findClass "StackedRows$Codewords" = some m.cls) (hml : c.maxLocals = nL) (hsz : ls.size = nL) (hf : 1 ≤ R.frames) (hlo : (rest.map fun v => v.category).sum + 12 ≤ R.locals) (hd : decode cc pc = .ok (.invokespecial 3, 3)) (kk : W p l e R s m args below meth c H locs cells slots Q (F0 m (pc + 3) ls rest)) : W p l e R s m args below meth c H locs cells slots Q (F0 m pc ls (.ref a :: rest)) :=
  xo_init hx hb hown (hts _ ml_CW_3) (hts _ woi) (hts _ woc) hml hsz hf hlo hd kk
theorem oi_MD_3 (hx : p.tables.exec = Jvm.exec) (hb : c.code = cc) (hts : ∀ w ∈ xt_T, w.before args s = true) (hown : s.vm.findClass "StackedRows$Mender" = some m.cls) (hml : c.maxLocals = nL) (hsz : ls.size = nL) (hf : 1 ≤ R.frames) (hlo : (rest.map fun v => v.category).sum + 12 ≤ R.locals) (hd : decode cc pc = .ok (.invokespecial 3, 3)) (kk : W p l e R s m args below meth c H locs cells slots Q (F0 m (pc + 3) ls rest)) : W p l e R s m args below meth c H locs cells slots Q (F0 m pc ls (.ref a :: rest)) :=
  xo_init hx hb hown (hts _ ml_MD_3) (hts _ woi) (hts _ woc) hml hsz hf hlo hd kk
theorem oi_RD_3 (hx : p.tables.exec = Jvm.exec) (hb : c.code = cc) (hts : ∀ w ∈ xt_T, w.before args s = true) (hown : s.vm.findClass "StackedRows$Reader" = some m.cls) (hml : c.maxLocals = nL) (hsz : ls.size = nL) (hf : 1 ≤ R.frames) (hlo : (rest.map fun v => v.category).sum + 12 ≤ R.locals) (hd : decode cc pc = .ok (.invokespecial 3, 3)) (kk : W p l e R s m args below meth c H locs cells slots Q (F0 m (pc + 3) ls rest)) : W p l e R s m args below meth c H locs cells slots Q (F0 m pc ls (.ref a :: rest)) :=
  xo_init hx hb hown (hts _ ml_RD_3) (hts _ woi) (hts _ woc) hml hsz hf hlo hd kk
theorem oi_SV_3 (hx : p.tables.exec = Jvm.exec) (hb : c.code = cc) (hts : ∀ w ∈ xt_T, w.before args s = true) (hown : s.vm.findClass "StackedRows$Solver" = some m.cls) (hml : c.maxLocals = nL) (hsz : ls.size = nL) (hf : 1 ≤ R.frames) (hlo : (rest.map fun v => v.category).sum + 12 ≤ R.locals) (hd : decode cc pc = .ok (.invokespecial 3, 3)) (kk : W p l e R s m args below meth c H locs cells slots Q (F0 m (pc + 3) ls rest)) : W p l e R s m args below meth c H locs cells slots Q (F0 m pc ls (.ref a :: rest)) :=
  xo_init hx hb hown (hts _ ml_SV_3) (hts _ woi) (hts _ woc) hml hsz hf hlo hd kk
theorem oi_SY_3 (hx : p.tables.exec = Jvm.exec) (hb : c.code = cc) (hts : ∀ w ∈ xt_T, w.before args s = true) (hown : s.vm.findClass "StackedRows$Symbol" = some m.cls) (hml : c.maxLocals = nL) (hsz : ls.size = nL) (hf : 1 ≤ R.frames) (hlo : (rest.map fun v => v.category).sum + 12 ≤ R.locals) (hd : decode cc pc = .ok (.invokespecial 3, 3)) (kk : W p l e R s m args below meth c H locs cells slots Q (F0 m (pc + 3) ls rest)) : W p l e R s m args below meth c H locs cells slots Q (F0 m pc ls (.ref a :: rest)) :=
  xo_init hx hb hown (hts _ ml_SY_3) (hts _ woi) (hts _ woc) hml hsz hf hlo hd kk
theorem oi_TP_3 (hx : p.tables.exec = Jvm.exec) (hb : c.code = cc) (hts : ∀ w ∈ xt_T, w.before args s = true) (hown : s.vm.findClass "StackedRows$Tape" = some m.cls) (hml : c.maxLocals = nL) (hsz : ls.size = nL) (hf : 1 ≤ R.frames) (hlo : (rest.map fun v => v.category).sum + 12 ≤ R.locals) (hd : decode cc pc = .ok (.invokespecial 3, 3)) (kk : W p l e R s m args below meth c H locs cells slots Q (F0 m (pc + 3) ls rest)) : W p l e R s m args below meth c H locs cells slots Q (F0 m pc ls (.ref a :: rest)) :=
  xo_init hx hb hown (hts _ ml_TP_3) (hts _ woi) (hts _ woc) hml hsz hf hlo hd kk
theorem oi_TW_3 (hx : p.tables.exec = Jvm.exec) (hb : c.code = cc) (hts : ∀ w ∈ xt_T, w.before args s = true) (hown : s.vm.findClass "StackedRows$TextWriter" = some m.cls) (hml : c.maxLocals = nL) (hsz : ls.size = nL) (hf : 1 ≤ R.frames) (hlo : (rest.map fun v => v.category).sum + 12 ≤ R.locals) (hd : decode cc pc = .ok (.invokespecial 3, 3)) (kk : W p l e R s m args below meth c H locs cells slots Q (F0 m (pc + 3) ls rest)) : W p l e R s m args below meth c H locs cells slots Q (F0 m pc ls (.ref a :: rest)) :=
  xo_init hx hb hown (hts _ ml_TW_3) (hts _ woi) (hts _ woc) hml hsz hf hlo hd kk
theorem oi_WR_3 (hx : p.tables.exec = Jvm.exec) (hb : c.code = cc) (hts : ∀ w ∈ xt_T, w.before args s = true) (hown : s.vm.findClass "StackedRows$Writer" = some m.cls) (hml : c.maxLocals = nL) (hsz : ls.size = nL) (hf : 1 ≤ R.frames) (hlo : (rest.map fun v => v.category).sum + 12 ≤ R.locals) (hd : decode cc pc = .ok (.invokespecial 3, 3)) (kk : W p l e R s m args below meth c H locs cells slots Q (F0 m (pc + 3) ls rest)) : W p l e R s m args below meth c H locs cells slots Q (F0 m pc ls (.ref a :: rest)) :=
  xo_init hx hb hown (hts _ ml_WR_3) (hts _ woi) (hts _ woc) hml hsz hf hlo hd kk
theorem oi_SR_3 (hx : p.tables.exec = Jvm.exec) (hb : c.code = cc) (hts : ∀ w ∈ xt_T, w.before args s = true) (hown : s.vm.findClass "StackedRows" = some m.cls) (hml : c.maxLocals = nL) (hsz : ls.size = nL) (hf : 1 ≤ R.frames) (hlo : (rest.map fun v => v.category).sum + 12 ≤ R.locals) (hd : decode cc pc = .ok (.invokespecial 3, 3)) (kk : W p l e R s m args below meth c H locs cells slots Q (F0 m (pc + 3) ls rest)) : W p l e R s m args below meth c H locs cells slots Q (F0 m pc ls (.ref a :: rest)) :=
  xo_init hx hb hown (hts _ ml_SR_3) (hts _ woi) (hts _ woc) hml hsz hf hlo hd kk
theorem oi_MO_1 (hx : p.tables.exec = Jvm.exec) (hb : c.code = cc) (hts : ∀ w ∈ xt_T, w.before args s = true) (hown : s.vm.findClass "StackedRowsModel" = some m.cls) (hml : c.maxLocals = nL) (hsz : ls.size = nL) (hf : 1 ≤ R.frames) (hlo : (rest.map fun v => v.category).sum + 12 ≤ R.locals) (hd : decode cc pc = .ok (.invokespecial 1, 3)) (kk : W p l e R s m args below meth c H locs cells slots Q (F0 m (pc + 3) ls rest)) : W p l e R s m args below meth c H locs cells slots Q (F0 m pc ls (.ref a :: rest)) :=
  xo_init hx hb hown (hts _ ml_MO_1) (hts _ woi) (hts _ woc) hml hsz hf hlo hd kk
end XX
theorem tw_SR_112 : ∀ a ∈ Bundle.ownAtoms0 "StackedRows" 114 "java/lang/IllegalStateException" ["java/lang/RuntimeException", "java/lang/Exception"], xt_K a := by
  unfold xt_K
  decide +kernel
theorem tw_SR_59 : ∀ a ∈ Bundle.ownAtoms0 "StackedRows" 61 "java/lang/UnsupportedOperationException" ["java/lang/RuntimeException", "java/lang/Exception"], xt_K a := by
  unfold xt_K
  decide +kernel
theorem tw_SR_69 : ∀ a ∈ Bundle.ownAtoms0 "StackedRows" 71 "java/lang/IllegalArgumentException" ["java/lang/RuntimeException", "java/lang/Exception"], xt_K a := by
  unfold xt_K
  decide +kernel
theorem tw_SR_75 : ∀ a ∈ Bundle.ownAtoms0 "StackedRows" 77 "java/lang/IndexOutOfBoundsException" ["java/lang/RuntimeException", "java/lang/Exception"], xt_K a := by
  unfold xt_K
  decide +kernel
end
section
set_option maxHeartbeats 4000000 in
set_option maxRecDepth 100000 in
theorem ct_tape_init (l : Launch) (g : xg_G) (h : Nat) : kc_V l yy_TP_init cd_TP_init 1 { frames := 1, cells := 1, slots := 1200, locals := 12 } g [.ref h] [oc_o h 8 [.null, .int (nI 0)]] (S := Nat) (fun _ => True) (fun u0 => [oc_o h 8 [.ref u0, .int (nI 0)], oc_i g u0 1200 (fun _ => 0)]) := by
  refine kc_Vof (by decide) (Nat.le_of_ble_eq_true rfl) ?_
  intro p e s m args below meth c A ls Q H locs hQ hB hP hS
  obtain ⟨hx, hb, hr, hlk, hin, hml, hown, hts, hA, hK, hD, hE, hl⟩ := hB
  have hF : xf_F g p m c cd_TP_init 1 s args "StackedRows$Tape" A := ⟨⟨hx, hb, hml, hown, hts⟩, hE, hK, hA⟩
  have hl : lv_has ls 1 [(0, .ref h)] := hl
  have hown : s.vm.findClass "StackedRows$Tape" = some m.cls := hown
  refine lv_aload_n hx hb dd_TP_init_0 rfl (lv_at hl 0 rfl) ?_
  refine oi_TP_3 hx hb hts hown hml hl.1 (Nat.le_of_ble_eq_true rfl) (Nat.le_of_ble_eq_true rfl) dd_TP_init_1 ?_
  refine lv_aload_n hx hb dd_TP_init_4 rfl (lv_at hl 0 rfl) ?_
  refine lv_sipush (v := nI 1200) hx hb dd_TP_init_5 (by decide) ?_
  refine xa_newI (k1 := 1) (k2 := 1200) hx hb (hts _ wa_int) hK hP hD hS hA (by decide) rfl rfl (Nat.le_of_ble_eq_true rfl) (Nat.le_of_ble_eq_true rfl) dd_TP_init_8 (fun q_1 H hP hD hS => ?_)
  have hP : va_P g.1 vwCl [oc_o h 8 [.null, .int (nI 0)], oc_i g q_1 1200 (fun _ => 0)] H := hP
  have hD : va_D A [oc_o h 8 [.null, .int (nI 0)], oc_i g q_1 1200 (fun _ => 0)] := hD
  refine pf_TP_9 hin hx hb hts hown hK hP hD hS 0 rfl rfl rfl (Nat.le_of_ble_eq_true rfl) dd_TP_init_10 (fun H locs hP hD hS => ?_)
  have hP : va_P g.1 vwCl [oc_o h 8 [.ref q_1, .int (nI 0)], oc_i g q_1 1200 (fun _ => 0)] H := hP
  have hD : va_D A [oc_o h 8 [.ref q_1, .int (nI 0)], oc_i g q_1 1200 (fun _ => 0)] := hD
  refine lv_aload_n hx hb dd_TP_init_13 rfl (lv_at hl 0 rfl) ?_
  refine lv_iconst (v := nI 0) hx hb dd_TP_init_14 (by decide) ?_
  refine pf_TP_15 hx hb hts hown hK hP hD hS 0 rfl rfl rfl (Nat.le_of_ble_eq_true rfl) dd_TP_init_15 (fun H locs hP hD hS => ?_)
  have hP : va_P g.1 vwCl [oc_o h 8 [.ref q_1, .int (nI 0)], oc_i g q_1 1200 (fun _ => 0)] H := hP
  have hD : va_D A [oc_o h 8 [.ref q_1, .int (nI 0)], oc_i g q_1 1200 (fun _ => 0)] := hD
  exact xr_v hx hb hr hlk hQ hP hD hS (q_1) trivial [0, 1] (by decide) rfl (Nat.le_of_ble_eq_true rfl) (Nat.le_of_ble_eq_true rfl) dd_TP_init_18

set_option maxHeartbeats 4000000 in
set_option maxRecDepth 100000 in
theorem ct_tape_size (l : Launch) (g : xg_G) (h : Nat) (b : Nat) (k : Nat) : kc_I l yy_TP_size cd_TP_size 1 .int { frames := 0, cells := 0, slots := 0, locals := 0 } g [.ref h] [oc_o h 8 [.ref b, .int (nI k)]] (S := Unit) (fun r0 _ => r0 = nI k) (fun _ => [oc_o h 8 [.ref b, .int (nI k)]]) := by
  refine kc_Iof (by decide) (Nat.le_of_ble_eq_true rfl) ?_
  intro p e s m args below meth c A ls Q H locs hQ hB hP hS
  obtain ⟨hx, hb, hr, hlk, hin, hml, hown, hts, hA, hK, hD, hE, hl⟩ := hB
  have hF : xf_F g p m c cd_TP_size 1 s args "StackedRows$Tape" A := ⟨⟨hx, hb, hml, hown, hts⟩, hE, hK, hA⟩
  have hl : lv_has ls 1 [(0, .ref h)] := hl
  have hown : s.vm.findClass "StackedRows$Tape" = some m.cls := hown
  refine lv_aload_n hx hb dd_TP_size_0 rfl (lv_at hl 0 rfl) ?_
  refine gf_TP_15 hx hb hts hown hK hP 0 rfl rfl dd_TP_size_1 ?_
  exact xr_i hx hb hr hlk hQ hP hD hS () (by first | rfl | exact congrArg nI (by omega)) [0] (by decide) rfl rfl (Nat.le_of_ble_eq_true rfl) (Nat.le_of_ble_eq_true rfl) dd_TP_size_4

set_option maxHeartbeats 4000000 in
set_option maxRecDepth 100000 in
theorem ct_tape_add (l : Launch) (g : xg_G) (h : Nat) (b : Nat) (k : Nat) (f : Nat → Int32) (x : Int32) (qk : k < 1200) : kc_V l yy_TP_add cd_TP_add 2 { frames := 0, cells := 0, slots := 0, locals := 0 } g [.ref h, .int x] [oc_o h 8 [.ref b, .int (nI k)], oc_i g b 1200 f] (S := (Nat → Int32)) (fun _ => True) (fun u0 => [oc_o h 8 [.ref b, .int (nI (k + 1))], oc_i g b 1200 u0]) := by
  refine kc_Vof (by decide) (Nat.le_of_ble_eq_true rfl) ?_
  intro p e s m args below meth c A ls Q H locs hQ hB hP hS
  obtain ⟨hx, hb, hr, hlk, hin, hml, hown, hts, hA, hK, hD, hE, hl⟩ := hB
  have hF : xf_F g p m c cd_TP_add 2 s args "StackedRows$Tape" A := ⟨⟨hx, hb, hml, hown, hts⟩, hE, hK, hA⟩
  have hl : lv_has ls 2 [(0, .ref h), (1, .int x)] := hl
  have hown : s.vm.findClass "StackedRows$Tape" = some m.cls := hown
  refine lv_aload_n hx hb dd_TP_add_0 rfl (lv_at hl 0 rfl) ?_
  refine gf_TP_15 hx hb hts hown hK hP 0 rfl rfl dd_TP_add_1 ?_
  refine lv_sipush (v := nI 1200) hx hb dd_TP_add_4 (by decide) ?_
  refine xb_ge (tgt := 20) hx hb (by omega) (by omega) dd_TP_add_7 rfl (fun h_1 => False.elim (by omega)) (fun h_1 => ?_)
  refine lv_aload_n hx hb dd_TP_add_10 rfl (lv_at hl 0 rfl) ?_
  refine gf_TP_9 hx hb hts hown hK hP 0 rfl rfl dd_TP_add_11 ?_
  refine lv_aload_n hx hb dd_TP_add_14 rfl (lv_at hl 0 rfl) ?_
  refine gf_TP_15 hx hb hts hown hK hP 0 rfl rfl dd_TP_add_15 ?_
  refine lv_iload_n hx hb dd_TP_add_18 rfl (lv_at hl 1 rfl) ?_
  refine xa_st hx hb hK hP hD hS 1 rfl (j := k) (by omega) (by omega) dd_TP_add_19 (fun f_2 H locs hP hD hS => ?_)
  have hP : va_P g.1 vwCl [oc_o h 8 [.ref b, .int (nI k)], oc_i g b 1200 f_2] H := hP
  have hD : va_D A [oc_o h 8 [.ref b, .int (nI k)], oc_i g b 1200 f_2] := hD
  refine lv_aload_n hx hb dd_TP_add_20 rfl (lv_at hl 0 rfl) ?_
  refine lv_dup hx hb dd_TP_add_21 rfl ?_
  refine gf_TP_15 hx hb hts hown hK hP 0 rfl rfl dd_TP_add_22 ?_
  refine lv_iconst (v := nI 1) hx hb dd_TP_add_25 (by decide) ?_
  refine xi_iadd hx hb dd_TP_add_26 ?_
  refine pf_TP_15 hx hb hts hown hK hP hD hS 0 rfl rfl rfl (Nat.le_of_ble_eq_true rfl) dd_TP_add_27 (fun H locs hP hD hS => ?_)
  have hP : va_P g.1 vwCl [oc_o h 8 [.ref b, .int (nI (k + 1))], oc_i g b 1200 f_2] H := hP
  have hD : va_D A [oc_o h 8 [.ref b, .int (nI (k + 1))], oc_i g b 1200 f_2] := hD
  exact xr_v hx hb hr hlk hQ hP hD hS (f_2) trivial [0, 1] (by decide) rfl (Nat.le_of_ble_eq_true rfl) (Nat.le_of_ble_eq_true rfl) dd_TP_add_30

set_option maxHeartbeats 4000000 in
set_option maxRecDepth 100000 in
theorem ct_tape_four (l : Launch) (g : xg_G) (h : Nat) (b : Nat) (k : Nat) (f : Nat → Int32) (x : Int32) (qk : k < 1190) : kc_V l yy_TP_addFour cd_TP_addFour 3 { frames := 1, cells := 0, slots := 0, locals := 21 } g [.ref h, .int x] [oc_o h 8 [.ref b, .int (nI k)], oc_i g b 1200 f] (S := (Nat → Int32)) (fun _ => True) (fun u0 => [oc_o h 8 [.ref b, .int (nI (k + 4))], oc_i g b 1200 u0]) := by
  refine kc_Vof (by decide) (Nat.le_of_ble_eq_true rfl) ?_
  intro p e s m args below meth c A ls Q H locs hQ hB hP hS
  obtain ⟨hx, hb, hr, hlk, hin, hml, hown, hts, hA, hK, hD, hE, hl⟩ := hB
  have hF : xf_F g p m c cd_TP_addFour 3 s args "StackedRows$Tape" A := ⟨⟨hx, hb, hml, hown, hts⟩, hE, hK, hA⟩
  have hl : lv_has ls 3 [(0, .ref h), (1, .int x)] := hl
  have hown : s.vm.findClass "StackedRows$Tape" = some m.cls := hown
  refine lv_bipush (v := nI 24) hx hb dd_TP_addFour_0 (by decide) ?_
  refine lv_istore_n (lv' := [(2, .int (nI 24)), (0, .ref h), (1, .int x)]) hx hb dd_TP_addFour_2 rfl hl (by decide) rfl (fun ls hl => ?_)
  refine lv_iload_n hx hb dd_TP_addFour_3 rfl (lv_at hl 0 rfl) ?_
  refine lv_if_lt (tgt := 24) hx hb dd_TP_addFour_4 rfl (fun h_1 => absurd h_1 (by decide)) (fun _ => ?_)
  refine lv_aload_n hx hb dd_TP_addFour_7 rfl (lv_at hl 1 rfl) ?_
  refine lv_iload_n hx hb dd_TP_addFour_8 rfl (lv_at hl 2 rfl) ?_
  refine lv_iload_n hx hb dd_TP_addFour_9 rfl (lv_at hl 0 rfl) ?_
  refine lv_ishr hx hb dd_TP_addFour_10 (lv_topi (fun x_2 _ => ?_))
  refine lv_sipush (v := nI 255) hx hb dd_TP_addFour_11 (by decide) ?_
  refine lv_iand hx hb dd_TP_addFour_14 (lv_topi (fun x_3 _ => ?_))
  refine xc_Vv (wr := []) (k1 := 0) (k2 := 0) (As := [.int x_3]) (rest := []) (k := 1) hF hP hD hS (ct_tape_add l g h b k f x_3 (by omega)) (xt_V ml_TP_19 wi_TP_add wx_TP_add wn_TP wc_TP_add) (by decide) 0 rfl rfl rfl [0, 1] [] ⟨rfl, rfl, by decide, by decide, by decide⟩ ⟨⟨Nat.le_of_ble_eq_true rfl, Nat.le_of_ble_eq_true rfl⟩, rfl, rfl, Nat.le_of_ble_eq_true rfl, Nat.le_of_ble_eq_true rfl⟩ rfl hl.1 rfl (Nat.le_of_ble_eq_true rfl) dd_TP_addFour_15 (fun f_4 H locs hp hP hD hS => ?_)
  have hP : va_P g.1 vwCl [oc_o h 8 [.ref b, .int (nI (k + 1))], oc_i g b 1200 f_4] H := hP
  have hD : va_D A [oc_o h 8 [.ref b, .int (nI (k + 1))], oc_i g b 1200 f_4] := hD
  refine lv_iinc (k := 0) (lv' := [(2, .int (nI 16)), (0, .ref h), (1, .int x)]) hx hb dd_TP_addFour_18 hl rfl (by decide) (by decide) rfl (fun ls hl => ?_)
  refine lv_goto (tgt := 3) hx hb dd_TP_addFour_21 rfl ?_
  refine lv_iload_n hx hb dd_TP_addFour_3 rfl (lv_at hl 0 rfl) ?_
  refine lv_if_lt (tgt := 24) hx hb dd_TP_addFour_4 rfl (fun h_6 => absurd h_6 (by decide)) (fun _ => ?_)
  refine lv_aload_n hx hb dd_TP_addFour_7 rfl (lv_at hl 1 rfl) ?_
  refine lv_iload_n hx hb dd_TP_addFour_8 rfl (lv_at hl 2 rfl) ?_
  refine lv_iload_n hx hb dd_TP_addFour_9 rfl (lv_at hl 0 rfl) ?_
  refine lv_ishr hx hb dd_TP_addFour_10 (lv_topi (fun x_7 _ => ?_))
  refine lv_sipush (v := nI 255) hx hb dd_TP_addFour_11 (by decide) ?_
  refine lv_iand hx hb dd_TP_addFour_14 (lv_topi (fun x_8 _ => ?_))
  refine xc_Vv (wr := []) (k1 := 0) (k2 := 0) (As := [.int x_8]) (rest := []) (k := 1) hF hP hD hS (ct_tape_add l g h b (k + 1) f_4 x_8 (by omega)) (xt_V ml_TP_19 wi_TP_add wx_TP_add wn_TP wc_TP_add) (by decide) 0 rfl rfl rfl [0, 1] [] ⟨rfl, rfl, by decide, by decide, by decide⟩ ⟨⟨Nat.le_of_ble_eq_true rfl, Nat.le_of_ble_eq_true rfl⟩, rfl, rfl, Nat.le_of_ble_eq_true rfl, Nat.le_of_ble_eq_true rfl⟩ rfl hl.1 rfl (Nat.le_of_ble_eq_true rfl) dd_TP_addFour_15 (fun f_9 H locs hp hP hD hS => ?_)
  have hP : va_P g.1 vwCl [oc_o h 8 [.ref b, .int (nI ((k + 1) + 1))], oc_i g b 1200 f_9] H := hP
  have hD : va_D A [oc_o h 8 [.ref b, .int (nI ((k + 1) + 1))], oc_i g b 1200 f_9] := hD
  refine lv_iinc (k := 0) (lv' := [(2, .int (nI 8)), (0, .ref h), (1, .int x)]) hx hb dd_TP_addFour_18 hl rfl (by decide) (by decide) rfl (fun ls hl => ?_)
  refine lv_goto (tgt := 3) hx hb dd_TP_addFour_21 rfl ?_
  refine lv_iload_n hx hb dd_TP_addFour_3 rfl (lv_at hl 0 rfl) ?_
  refine lv_if_lt (tgt := 24) hx hb dd_TP_addFour_4 rfl (fun h_11 => absurd h_11 (by decide)) (fun _ => ?_)
  refine lv_aload_n hx hb dd_TP_addFour_7 rfl (lv_at hl 1 rfl) ?_
  refine lv_iload_n hx hb dd_TP_addFour_8 rfl (lv_at hl 2 rfl) ?_
  refine lv_iload_n hx hb dd_TP_addFour_9 rfl (lv_at hl 0 rfl) ?_
  refine lv_ishr hx hb dd_TP_addFour_10 (lv_topi (fun x_12 _ => ?_))
  refine lv_sipush (v := nI 255) hx hb dd_TP_addFour_11 (by decide) ?_
  refine lv_iand hx hb dd_TP_addFour_14 (lv_topi (fun x_13 _ => ?_))
  refine xc_Vv (wr := []) (k1 := 0) (k2 := 0) (As := [.int x_13]) (rest := []) (k := 1) hF hP hD hS (ct_tape_add l g h b ((k + 1) + 1) f_9 x_13 (by omega)) (xt_V ml_TP_19 wi_TP_add wx_TP_add wn_TP wc_TP_add) (by decide) 0 rfl rfl rfl [0, 1] [] ⟨rfl, rfl, by decide, by decide, by decide⟩ ⟨⟨Nat.le_of_ble_eq_true rfl, Nat.le_of_ble_eq_true rfl⟩, rfl, rfl, Nat.le_of_ble_eq_true rfl, Nat.le_of_ble_eq_true rfl⟩ rfl hl.1 rfl (Nat.le_of_ble_eq_true rfl) dd_TP_addFour_15 (fun f_14 H locs hp hP hD hS => ?_)
  have hP : va_P g.1 vwCl [oc_o h 8 [.ref b, .int (nI (((k + 1) + 1) + 1))], oc_i g b 1200 f_14] H := hP
  have hD : va_D A [oc_o h 8 [.ref b, .int (nI (((k + 1) + 1) + 1))], oc_i g b 1200 f_14] := hD
  refine lv_iinc (k := 0) (lv' := [(2, .int (nI 0)), (0, .ref h), (1, .int x)]) hx hb dd_TP_addFour_18 hl rfl (by decide) (by decide) rfl (fun ls hl => ?_)
  refine lv_goto (tgt := 3) hx hb dd_TP_addFour_21 rfl ?_
  refine lv_iload_n hx hb dd_TP_addFour_3 rfl (lv_at hl 0 rfl) ?_
  refine lv_if_lt (tgt := 24) hx hb dd_TP_addFour_4 rfl (fun h_16 => absurd h_16 (by decide)) (fun _ => ?_)
  refine lv_aload_n hx hb dd_TP_addFour_7 rfl (lv_at hl 1 rfl) ?_
  refine lv_iload_n hx hb dd_TP_addFour_8 rfl (lv_at hl 2 rfl) ?_
  refine lv_iload_n hx hb dd_TP_addFour_9 rfl (lv_at hl 0 rfl) ?_
  refine lv_ishr hx hb dd_TP_addFour_10 (lv_topi (fun x_17 _ => ?_))
  refine lv_sipush (v := nI 255) hx hb dd_TP_addFour_11 (by decide) ?_
  refine lv_iand hx hb dd_TP_addFour_14 (lv_topi (fun x_18 _ => ?_))
  refine xc_Vv (wr := []) (k1 := 0) (k2 := 0) (As := [.int x_18]) (rest := []) (k := 1) hF hP hD hS (ct_tape_add l g h b (((k + 1) + 1) + 1) f_14 x_18 (by omega)) (xt_V ml_TP_19 wi_TP_add wx_TP_add wn_TP wc_TP_add) (by decide) 0 rfl rfl rfl [0, 1] [] ⟨rfl, rfl, by decide, by decide, by decide⟩ ⟨⟨Nat.le_of_ble_eq_true rfl, Nat.le_of_ble_eq_true rfl⟩, rfl, rfl, Nat.le_of_ble_eq_true rfl, Nat.le_of_ble_eq_true rfl⟩ rfl hl.1 rfl (Nat.le_of_ble_eq_true rfl) dd_TP_addFour_15 (fun f_19 H locs hp hP hD hS => ?_)
  have hP : va_P g.1 vwCl [oc_o h 8 [.ref b, .int (nI ((((k + 1) + 1) + 1) + 1))], oc_i g b 1200 f_19] H := hP
  have hD : va_D A [oc_o h 8 [.ref b, .int (nI ((((k + 1) + 1) + 1) + 1))], oc_i g b 1200 f_19] := hD
  refine lv_iinc (k := 0) (lv' := [(2, .int (-8)), (0, .ref h), (1, .int x)]) hx hb dd_TP_addFour_18 hl rfl (by decide) (by decide) rfl (fun ls hl => ?_)
  refine lv_goto (tgt := 3) hx hb dd_TP_addFour_21 rfl ?_
  refine lv_iload_n hx hb dd_TP_addFour_3 rfl (lv_at hl 0 rfl) ?_
  refine lv_if_lt (tgt := 24) hx hb dd_TP_addFour_4 rfl (fun _ => ?_) (fun h_21 => absurd (by decide) h_21)
  exact xr_v hx hb hr hlk hQ hP hD hS (f_19) trivial [0, 1] (by decide) rfl (Nat.le_of_ble_eq_true rfl) (Nat.le_of_ble_eq_true rfl) dd_TP_addFour_24

set_option maxHeartbeats 4000000 in
set_option maxRecDepth 100000 in
theorem ct_tape_cut (l : Launch) (g : xg_G) (h : Nat) (b : Nat) (k : Nat) (x : Int32) : kc_V l yy_TP_cut cd_TP_cut 2 { frames := 0, cells := 0, slots := 0, locals := 0 } g [.ref h, .int x] [oc_o h 8 [.ref b, .int (nI k)]] (S := Unit) (fun _ => True) (fun _ => [oc_o h 8 [.ref b, .int x]]) := by
  refine kc_Vof (by decide) (Nat.le_of_ble_eq_true rfl) ?_
  intro p e s m args below meth c A ls Q H locs hQ hB hP hS
  obtain ⟨hx, hb, hr, hlk, hin, hml, hown, hts, hA, hK, hD, hE, hl⟩ := hB
  have hF : xf_F g p m c cd_TP_cut 2 s args "StackedRows$Tape" A := ⟨⟨hx, hb, hml, hown, hts⟩, hE, hK, hA⟩
  have hl : lv_has ls 2 [(0, .ref h), (1, .int x)] := hl
  have hown : s.vm.findClass "StackedRows$Tape" = some m.cls := hown
  refine lv_aload_n hx hb dd_TP_cut_0 rfl (lv_at hl 0 rfl) ?_
  refine lv_iload_n hx hb dd_TP_cut_1 rfl (lv_at hl 1 rfl) ?_
  refine pf_TP_15 hx hb hts hown hK hP hD hS 0 rfl rfl rfl (Nat.le_of_ble_eq_true rfl) dd_TP_cut_2 (fun H locs hP hD hS => ?_)
  have hP : va_P g.1 vwCl [oc_o h 8 [.ref b, .int x]] H := hP
  have hD : va_D A [oc_o h 8 [.ref b, .int x]] := hD
  exact xr_v hx hb hr hlk hQ hP hD hS () trivial [0] (by decide) rfl (Nat.le_of_ble_eq_true rfl) (Nat.le_of_ble_eq_true rfl) dd_TP_cut_5

set_option maxHeartbeats 4000000 in
set_option maxRecDepth 100000 in
theorem ct_cw_init (l : Launch) (g : xg_G) (h : Nat) : kc_V l yy_CW_init cd_CW_init 1 { frames := 1, cells := 1, slots := 2400, locals := 12 } g [.ref h] [oc_o h 3 [.null, .int (nI 0)]] (S := Nat) (fun _ => True) (fun u0 => [oc_o h 3 [.ref u0, .int (nI 0)]]) := by
  refine kc_Vof (by decide) (Nat.le_of_ble_eq_true rfl) ?_
  intro p e s m args below meth c A ls Q H locs hQ hB hP hS
  obtain ⟨hx, hb, hr, hlk, hin, hml, hown, hts, hA, hK, hD, hE, hl⟩ := hB
  have hF : xf_F g p m c cd_CW_init 1 s args "StackedRows$Codewords" A := ⟨⟨hx, hb, hml, hown, hts⟩, hE, hK, hA⟩
  have hl : lv_has ls 1 [(0, .ref h)] := hl
  have hown : s.vm.findClass "StackedRows$Codewords" = some m.cls := hown
  refine lv_aload_n hx hb dd_CW_init_0 rfl (lv_at hl 0 rfl) ?_
  refine oi_CW_3 hx hb hts hown hml hl.1 (Nat.le_of_ble_eq_true rfl) (Nat.le_of_ble_eq_true rfl) dd_CW_init_1 ?_
  refine lv_aload_n hx hb dd_CW_init_4 rfl (lv_at hl 0 rfl) ?_
  refine lv_sipush (v := nI 2400) hx hb dd_CW_init_5 (by decide) ?_
  refine xa_newI (k1 := 1) (k2 := 2400) hx hb (hts _ wa_int) hK hP hD hS hA (by decide) rfl rfl (Nat.le_of_ble_eq_true rfl) (Nat.le_of_ble_eq_true rfl) dd_CW_init_8 (fun q_1 H hP hD hS => ?_)
  have hP : va_P g.1 vwCl [oc_o h 3 [.null, .int (nI 0)], oc_i g q_1 2400 (fun _ => 0)] H := hP
  have hD : va_D A [oc_o h 3 [.null, .int (nI 0)], oc_i g q_1 2400 (fun _ => 0)] := hD
  refine pf_CW_9 hin hx hb hts hown hK hP hD hS 0 rfl rfl rfl (Nat.le_of_ble_eq_true rfl) dd_CW_init_10 (fun H locs hP hD hS => ?_)
  have hP : va_P g.1 vwCl [oc_o h 3 [.ref q_1, .int (nI 0)], oc_i g q_1 2400 (fun _ => 0)] H := hP
  have hD : va_D A [oc_o h 3 [.ref q_1, .int (nI 0)], oc_i g q_1 2400 (fun _ => 0)] := hD
  refine lv_aload_n hx hb dd_CW_init_13 rfl (lv_at hl 0 rfl) ?_
  refine lv_iconst (v := nI 0) hx hb dd_CW_init_14 (by decide) ?_
  refine pf_CW_15 hx hb hts hown hK hP hD hS 0 rfl rfl rfl (Nat.le_of_ble_eq_true rfl) dd_CW_init_15 (fun H locs hP hD hS => ?_)
  have hP : va_P g.1 vwCl [oc_o h 3 [.ref q_1, .int (nI 0)], oc_i g q_1 2400 (fun _ => 0)] H := hP
  have hD : va_D A [oc_o h 3 [.ref q_1, .int (nI 0)], oc_i g q_1 2400 (fun _ => 0)] := hD
  exact xr_v hx hb hr hlk hQ hP hD hS (q_1) trivial [0] (by decide) rfl (Nat.le_of_ble_eq_true rfl) (Nat.le_of_ble_eq_true rfl) dd_CW_init_18

set_option maxHeartbeats 4000000 in
set_option maxRecDepth 100000 in
theorem ct_cw_size (l : Launch) (g : xg_G) (h : Nat) (b : Nat) (k : Nat) : kc_I l yy_CW_size cd_CW_size 1 .int { frames := 0, cells := 0, slots := 0, locals := 0 } g [.ref h] [oc_o h 3 [.ref b, .int (nI k)]] (S := Unit) (fun r0 _ => r0 = nI k) (fun _ => [oc_o h 3 [.ref b, .int (nI k)]]) := by
  refine kc_Iof (by decide) (Nat.le_of_ble_eq_true rfl) ?_
  intro p e s m args below meth c A ls Q H locs hQ hB hP hS
  obtain ⟨hx, hb, hr, hlk, hin, hml, hown, hts, hA, hK, hD, hE, hl⟩ := hB
  have hF : xf_F g p m c cd_CW_size 1 s args "StackedRows$Codewords" A := ⟨⟨hx, hb, hml, hown, hts⟩, hE, hK, hA⟩
  have hl : lv_has ls 1 [(0, .ref h)] := hl
  have hown : s.vm.findClass "StackedRows$Codewords" = some m.cls := hown
  refine lv_aload_n hx hb dd_CW_size_0 rfl (lv_at hl 0 rfl) ?_
  refine gf_CW_15 hx hb hts hown hK hP 0 rfl rfl dd_CW_size_1 ?_
  exact xr_i hx hb hr hlk hQ hP hD hS () (by first | rfl | exact congrArg nI (by omega)) [0] (by decide) rfl rfl (Nat.le_of_ble_eq_true rfl) (Nat.le_of_ble_eq_true rfl) dd_CW_size_4

set_option maxHeartbeats 4000000 in
set_option maxRecDepth 100000 in
theorem ct_cw_clear (l : Launch) (g : xg_G) (h : Nat) (b : Nat) (k : Nat) : kc_V l yy_CW_clear cd_CW_clear 1 { frames := 0, cells := 0, slots := 0, locals := 0 } g [.ref h] [oc_o h 3 [.ref b, .int (nI k)]] (S := Unit) (fun _ => True) (fun _ => [oc_o h 3 [.ref b, .int (nI 0)]]) := by
  refine kc_Vof (by decide) (Nat.le_of_ble_eq_true rfl) ?_
  intro p e s m args below meth c A ls Q H locs hQ hB hP hS
  obtain ⟨hx, hb, hr, hlk, hin, hml, hown, hts, hA, hK, hD, hE, hl⟩ := hB
  have hF : xf_F g p m c cd_CW_clear 1 s args "StackedRows$Codewords" A := ⟨⟨hx, hb, hml, hown, hts⟩, hE, hK, hA⟩
  have hl : lv_has ls 1 [(0, .ref h)] := hl
  have hown : s.vm.findClass "StackedRows$Codewords" = some m.cls := hown
  refine lv_aload_n hx hb dd_CW_clear_0 rfl (lv_at hl 0 rfl) ?_
  refine lv_iconst (v := nI 0) hx hb dd_CW_clear_1 (by decide) ?_
  refine pf_CW_15 hx hb hts hown hK hP hD hS 0 rfl rfl rfl (Nat.le_of_ble_eq_true rfl) dd_CW_clear_2 (fun H locs hP hD hS => ?_)
  have hP : va_P g.1 vwCl [oc_o h 3 [.ref b, .int (nI 0)]] H := hP
  have hD : va_D A [oc_o h 3 [.ref b, .int (nI 0)]] := hD
  exact xr_v hx hb hr hlk hQ hP hD hS () trivial [0] (by decide) rfl (Nat.le_of_ble_eq_true rfl) (Nat.le_of_ble_eq_true rfl) dd_CW_clear_5

set_option maxHeartbeats 4000000 in
set_option maxRecDepth 100000 in
theorem ct_bn_init15 (l : Launch) (g : xg_G) (h : Nat) : kc_V l yy_BN_init cd_BN_init 3 { frames := 1, cells := 1, slots := 15, locals := 16 } g [.ref h, .int (nI 900), .int (nI 15)] [oc_o h 1 [.int (nI 0), .null]] (S := Unit) (fun _ => True) (fun _ => []) := by
  refine kc_Vof (by decide) (Nat.le_of_ble_eq_true rfl) ?_
  intro p e s m args below meth c A ls Q H locs hQ hB hP hS
  obtain ⟨hx, hb, hr, hlk, hin, hml, hown, hts, hA, hK, hD, hE, hl⟩ := hB
  have hF : xf_F g p m c cd_BN_init 3 s args "StackedRows$BigNumber" A := ⟨⟨hx, hb, hml, hown, hts⟩, hE, hK, hA⟩
  have hl : lv_has ls 3 [(0, .ref h), (1, .int (nI 900)), (2, .int (nI 15))] := hl
  have hown : s.vm.findClass "StackedRows$BigNumber" = some m.cls := hown
  refine lv_aload_n hx hb dd_BN_init_0 rfl (lv_at hl 0 rfl) ?_
  refine oi_BN_1 hx hb hts hown hml hl.1 (Nat.le_of_ble_eq_true rfl) (Nat.le_of_ble_eq_true rfl) dd_BN_init_1 ?_
  refine lv_aload_n hx hb dd_BN_init_4 rfl (lv_at hl 0 rfl) ?_
  refine lv_iload_n hx hb dd_BN_init_5 rfl (lv_at hl 1 rfl) ?_
  refine lv_iconst (v := nI 2) hx hb dd_BN_init_6 (by decide) ?_
  refine mx_BN_7 hx hb hts hown hml hl.1 (Nat.le_of_ble_eq_true rfl) (Nat.le_of_ble_eq_true rfl) (Nat.le_of_ble_eq_true rfl) (Nat.le_of_ble_eq_true rfl) dd_BN_init_7 (xi_eq (v := nI 900) (by decide) ?_)
  refine pf_BN_13 hin hx hb hts hown hK hP hD hS 0 rfl rfl rfl (Nat.le_of_ble_eq_true rfl) dd_BN_init_10 (fun H locs hP hD hS => ?_)
  have hP : va_P g.1 vwCl [oc_o h 1 [.int (nI 900), .null]] H := hP
  have hD : va_D A [oc_o h 1 [.int (nI 900), .null]] := hD
  refine lv_aload_n hx hb dd_BN_init_13 rfl (lv_at hl 0 rfl) ?_
  refine lv_iload_n hx hb dd_BN_init_14 rfl (lv_at hl 2 rfl) ?_
  refine lv_iconst (v := nI 1) hx hb dd_BN_init_15 (by decide) ?_
  refine mx_BN_7 hx hb hts hown hml hl.1 (Nat.le_of_ble_eq_true rfl) (Nat.le_of_ble_eq_true rfl) (Nat.le_of_ble_eq_true rfl) (Nat.le_of_ble_eq_true rfl) dd_BN_init_16 (xi_eq (v := nI 15) (by decide) ?_)
  refine xa_newI (k1 := 1) (k2 := 15) hx hb (hts _ wa_int) hK hP hD hS hA (by decide) rfl rfl (Nat.le_of_ble_eq_true rfl) (Nat.le_of_ble_eq_true rfl) dd_BN_init_19 (fun q_1 H hP hD hS => ?_)
  have hP : va_P g.1 vwCl [oc_o h 1 [.int (nI 900), .null], oc_i g q_1 15 (fun _ => 0)] H := hP
  have hD : va_D A [oc_o h 1 [.int (nI 900), .null], oc_i g q_1 15 (fun _ => 0)] := hD
  refine pf_BN_19 hin hx hb hts hown hK hP hD hS 0 rfl rfl rfl (Nat.le_of_ble_eq_true rfl) dd_BN_init_21 (fun H locs hP hD hS => ?_)
  have hP : va_P g.1 vwCl [oc_o h 1 [.int (nI 900), .ref q_1], oc_i g q_1 15 (fun _ => 0)] H := hP
  have hD : va_D A [oc_o h 1 [.int (nI 900), .ref q_1], oc_i g q_1 15 (fun _ => 0)] := hD
  exact xr_v hx hb hr hlk hQ hP hD hS () trivial [] (by decide) rfl (Nat.le_of_ble_eq_true rfl) (Nat.le_of_ble_eq_true rfl) dd_BN_init_24

set_option maxHeartbeats 4000000 in
set_option maxRecDepth 100000 in
theorem ct_bn_init45 (l : Launch) (g : xg_G) (h : Nat) : kc_V l yy_BN_init cd_BN_init 3 { frames := 1, cells := 1, slots := 45, locals := 16 } g [.ref h, .int (nI 10), .int (nI 45)] [oc_o h 1 [.int (nI 0), .null]] (S := Unit) (fun _ => True) (fun _ => []) := by
  refine kc_Vof (by decide) (Nat.le_of_ble_eq_true rfl) ?_
  intro p e s m args below meth c A ls Q H locs hQ hB hP hS
  obtain ⟨hx, hb, hr, hlk, hin, hml, hown, hts, hA, hK, hD, hE, hl⟩ := hB
  have hF : xf_F g p m c cd_BN_init 3 s args "StackedRows$BigNumber" A := ⟨⟨hx, hb, hml, hown, hts⟩, hE, hK, hA⟩
  have hl : lv_has ls 3 [(0, .ref h), (1, .int (nI 10)), (2, .int (nI 45))] := hl
  have hown : s.vm.findClass "StackedRows$BigNumber" = some m.cls := hown
  refine lv_aload_n hx hb dd_BN_init_0 rfl (lv_at hl 0 rfl) ?_
  refine oi_BN_1 hx hb hts hown hml hl.1 (Nat.le_of_ble_eq_true rfl) (Nat.le_of_ble_eq_true rfl) dd_BN_init_1 ?_
  refine lv_aload_n hx hb dd_BN_init_4 rfl (lv_at hl 0 rfl) ?_
  refine lv_iload_n hx hb dd_BN_init_5 rfl (lv_at hl 1 rfl) ?_
  refine lv_iconst (v := nI 2) hx hb dd_BN_init_6 (by decide) ?_
  refine mx_BN_7 hx hb hts hown hml hl.1 (Nat.le_of_ble_eq_true rfl) (Nat.le_of_ble_eq_true rfl) (Nat.le_of_ble_eq_true rfl) (Nat.le_of_ble_eq_true rfl) dd_BN_init_7 (xi_eq (v := nI 10) (by decide) ?_)
  refine pf_BN_13 hin hx hb hts hown hK hP hD hS 0 rfl rfl rfl (Nat.le_of_ble_eq_true rfl) dd_BN_init_10 (fun H locs hP hD hS => ?_)
  have hP : va_P g.1 vwCl [oc_o h 1 [.int (nI 10), .null]] H := hP
  have hD : va_D A [oc_o h 1 [.int (nI 10), .null]] := hD
  refine lv_aload_n hx hb dd_BN_init_13 rfl (lv_at hl 0 rfl) ?_
  refine lv_iload_n hx hb dd_BN_init_14 rfl (lv_at hl 2 rfl) ?_
  refine lv_iconst (v := nI 1) hx hb dd_BN_init_15 (by decide) ?_
  refine mx_BN_7 hx hb hts hown hml hl.1 (Nat.le_of_ble_eq_true rfl) (Nat.le_of_ble_eq_true rfl) (Nat.le_of_ble_eq_true rfl) (Nat.le_of_ble_eq_true rfl) dd_BN_init_16 (xi_eq (v := nI 45) (by decide) ?_)
  refine xa_newI (k1 := 1) (k2 := 45) hx hb (hts _ wa_int) hK hP hD hS hA (by decide) rfl rfl (Nat.le_of_ble_eq_true rfl) (Nat.le_of_ble_eq_true rfl) dd_BN_init_19 (fun q_1 H hP hD hS => ?_)
  have hP : va_P g.1 vwCl [oc_o h 1 [.int (nI 10), .null], oc_i g q_1 45 (fun _ => 0)] H := hP
  have hD : va_D A [oc_o h 1 [.int (nI 10), .null], oc_i g q_1 45 (fun _ => 0)] := hD
  refine pf_BN_19 hin hx hb hts hown hK hP hD hS 0 rfl rfl rfl (Nat.le_of_ble_eq_true rfl) dd_BN_init_21 (fun H locs hP hD hS => ?_)
  have hP : va_P g.1 vwCl [oc_o h 1 [.int (nI 10), .ref q_1], oc_i g q_1 45 (fun _ => 0)] H := hP
  have hD : va_D A [oc_o h 1 [.int (nI 10), .ref q_1], oc_i g q_1 45 (fun _ => 0)] := hD
  exact xr_v hx hb hr hlk hQ hP hD hS () trivial [] (by decide) rfl (Nat.le_of_ble_eq_true rfl) (Nat.le_of_ble_eq_true rfl) dd_BN_init_24

set_option maxHeartbeats 4000000 in
set_option maxRecDepth 100000 in
theorem ct_tw_init (l : Launch) (g : xg_G) (h : Nat) (o : Nat) : kc_V l yy_TW_init cd_TW_init 2 { frames := 1, cells := 0, slots := 0, locals := 12 } g [.ref h, .ref o] [oc_o h 9 [.null, .null, .int (nI 0)]] (S := Value) (fun _ => True) (fun u0 => [oc_o h 9 [.ref o, u0, .int (-1)]]) := by
  refine kc_Vof (by decide) (Nat.le_of_ble_eq_true rfl) ?_
  intro p e s m args below meth c A ls Q H locs hQ hB hP hS
  obtain ⟨hx, hb, hr, hlk, hin, hml, hown, hts, hA, hK, hD, hE, hl⟩ := hB
  have hF : xf_F g p m c cd_TW_init 2 s args "StackedRows$TextWriter" A := ⟨⟨hx, hb, hml, hown, hts⟩, hE, hK, hA⟩
  have hl : lv_has ls 2 [(0, .ref h), (1, .ref o)] := hl
  have hown : s.vm.findClass "StackedRows$TextWriter" = some m.cls := hown
  refine lv_aload_n hx hb dd_TW_init_0 rfl (lv_at hl 0 rfl) ?_
  refine oi_TW_3 hx hb hts hown hml hl.1 (Nat.le_of_ble_eq_true rfl) (Nat.le_of_ble_eq_true rfl) dd_TW_init_1 ?_
  refine lv_aload_n hx hb dd_TW_init_4 rfl (lv_at hl 0 rfl) ?_
  refine lv_aload_n hx hb dd_TW_init_5 rfl (lv_at hl 1 rfl) ?_
  refine pf_TW_9 hin hx hb hts hown hK hP hD hS 0 rfl rfl rfl (Nat.le_of_ble_eq_true rfl) dd_TW_init_6 (fun H locs hP hD hS => ?_)
  have hP : va_P g.1 vwCl [oc_o h 9 [.ref o, .null, .int (nI 0)]] H := hP
  have hD : va_D A [oc_o h 9 [.ref o, .null, .int (nI 0)]] := hD
  refine lv_aload_n hx hb dd_TW_init_9 rfl (lv_at hl 0 rfl) ?_
  refine gs_TW_15 hx hb hts hown hE hS dd_TW_init_10 (fun v_1 hv_1 => ?_)
  refine pf_TW_21 hx hb hts hown hK hP hD hS 0 rfl (xs_nar hv_1) (xs_fit hv_1) (Nat.le_of_ble_eq_true rfl) dd_TW_init_13 (fun H locs hP hD hS => ?_)
  have hP : va_P g.1 vwCl [oc_o h 9 [.ref o, v_1, .int (nI 0)]] H := hP
  have hD : va_D A [oc_o h 9 [.ref o, v_1, .int (nI 0)]] := hD
  refine lv_aload_n hx hb dd_TW_init_16 rfl (lv_at hl 0 rfl) ?_
  refine lv_iconst (v := -1) hx hb dd_TW_init_17 (by decide) ?_
  refine pf_TW_24 hx hb hts hown hK hP hD hS 0 rfl rfl rfl (Nat.le_of_ble_eq_true rfl) dd_TW_init_18 (fun H locs hP hD hS => ?_)
  have hP : va_P g.1 vwCl [oc_o h 9 [.ref o, v_1, .int (-1)]] H := hP
  have hD : va_D A [oc_o h 9 [.ref o, v_1, .int (-1)]] := hD
  exact xr_v hx hb hr hlk hQ hP hD hS (v_1) trivial [0] (by decide) rfl (Nat.le_of_ble_eq_true rfl) (Nat.le_of_ble_eq_true rfl) dd_TW_init_21

set_option maxHeartbeats 4000000 in
set_option maxRecDepth 100000 in
theorem ct_tw_begin (l : Launch) (g : xg_G) (h : Nat) (o : Nat) (w : Value) (x : Int32) : kc_V l yy_TW_beginWithCapitals cd_TW_beginWithCapitals 1 { frames := 0, cells := 0, slots := 0, locals := 0 } g [.ref h] [oc_o h 9 [.ref o, w, .int x]] (S := Value) (fun _ => True) (fun u0 => [oc_o h 9 [.ref o, u0, .int x]]) := by
  refine kc_Vof (by decide) (Nat.le_of_ble_eq_true rfl) ?_
  intro p e s m args below meth c A ls Q H locs hQ hB hP hS
  obtain ⟨hx, hb, hr, hlk, hin, hml, hown, hts, hA, hK, hD, hE, hl⟩ := hB
  have hF : xf_F g p m c cd_TW_beginWithCapitals 1 s args "StackedRows$TextWriter" A := ⟨⟨hx, hb, hml, hown, hts⟩, hE, hK, hA⟩
  have hl : lv_has ls 1 [(0, .ref h)] := hl
  have hown : s.vm.findClass "StackedRows$TextWriter" = some m.cls := hown
  refine lv_aload_n hx hb dd_TW_beginWithCapitals_0 rfl (lv_at hl 0 rfl) ?_
  refine gs_TW_15 hx hb hts hown hE hS dd_TW_beginWithCapitals_1 (fun v_1 hv_1 => ?_)
  refine pf_TW_21 hx hb hts hown hK hP hD hS 0 rfl (xs_nar hv_1) (xs_fit hv_1) (Nat.le_of_ble_eq_true rfl) dd_TW_beginWithCapitals_4 (fun H locs hP hD hS => ?_)
  have hP : va_P g.1 vwCl [oc_o h 9 [.ref o, v_1, .int x]] H := hP
  have hD : va_D A [oc_o h 9 [.ref o, v_1, .int x]] := hD
  exact xr_v hx hb hr hlk hQ hP hD hS (v_1) trivial [0] (by decide) rfl (Nat.le_of_ble_eq_true rfl) (Nat.le_of_ble_eq_true rfl) dd_TW_beginWithCapitals_7

set_option maxHeartbeats 4000000 in
set_option maxRecDepth 100000 in
theorem ct_wr_init (l : Launch) (g : xg_G) (h : Nat) (t : Nat) : kc_V l yy_WR_init cd_WR_init 2 { frames := 2, cells := 7, slots := 4824, locals := 38 } g [.ref h, .ref t] [oc_o h 10 [.null, .null, .null, .null, .null, .null, .int (nI 0), .int (nI 0)]] (S := Nat × Nat × Nat × Nat × Nat × Nat × Value) (fun _ => True) (fun u0 => [oc_o h 10 [.ref t, .ref u0.1, .ref u0.2.1, .ref u0.2.2.1, .ref u0.2.2.2.1, .ref u0.2.2.2.2.1, .int (nI 900), .int (nI 0)], oc_o u0.1 3 [.ref u0.2.2.2.2.2.1, .int (nI 0)], oc_o u0.2.1 9 [.ref u0.1, u0.2.2.2.2.2.2, .int (-1)], oc_i g u0.2.2.2.1 1201 (fun _ => 0), oc_i g u0.2.2.2.2.1 1201 (fun _ => 0)]) := by
  refine kc_Vof (by decide) (Nat.le_of_ble_eq_true rfl) ?_
  intro p e s m args below meth c A ls Q H locs hQ hB hP hS
  obtain ⟨hx, hb, hr, hlk, hin, hml, hown, hts, hA, hK, hD, hE, hl⟩ := hB
  have hF : xf_F g p m c cd_WR_init 2 s args "StackedRows$Writer" A := ⟨⟨hx, hb, hml, hown, hts⟩, hE, hK, hA⟩
  have hl : lv_has ls 2 [(0, .ref h), (1, .ref t)] := hl
  have hown : s.vm.findClass "StackedRows$Writer" = some m.cls := hown
  refine lv_aload_n hx hb dd_WR_init_0 rfl (lv_at hl 0 rfl) ?_
  refine oi_WR_3 hx hb hts hown hml hl.1 (Nat.le_of_ble_eq_true rfl) (Nat.le_of_ble_eq_true rfl) dd_WR_init_1 ?_
  refine lv_aload_n hx hb dd_WR_init_4 rfl (lv_at hl 0 rfl) ?_
  refine lv_aload_n hx hb dd_WR_init_5 rfl (lv_at hl 1 rfl) ?_
  refine pf_WR_9 hin hx hb hts hown hK hP hD hS 0 rfl rfl rfl (Nat.le_of_ble_eq_true rfl) dd_WR_init_6 (fun H locs hP hD hS => ?_)
  have hP : va_P g.1 vwCl [oc_o h 10 [.ref t, .null, .null, .null, .null, .null, .int (nI 0), .int (nI 0)]] H := hP
  have hD : va_D A [oc_o h 10 [.ref t, .null, .null, .null, .null, .null, .int (nI 0), .int (nI 0)]] := hD
  refine lv_aload_n hx hb dd_WR_init_9 rfl (lv_at hl 0 rfl) ?_
  refine nw_WR_15 (k1 := 1) (k2 := 2) hx hb hts hown hK hP hD hS hA rfl rfl (Nat.le_of_ble_eq_true rfl) (Nat.le_of_ble_eq_true rfl) dd_WR_init_10 (fun q_1 H hP hD hS => ?_)
  have hP : va_P g.1 vwCl [oc_o h 10 [.ref t, .null, .null, .null, .null, .null, .int (nI 0), .int (nI 0)], oc_o q_1 3 [.null, .int (nI 0)]] H := hP
  have hD : va_D A [oc_o h 10 [.ref t, .null, .null, .null, .null, .null, .int (nI 0), .int (nI 0)], oc_o q_1 3 [.null, .int (nI 0)]] := hD
  refine lv_dup hx hb dd_WR_init_13 rfl ?_
  refine xc_Iv (wr := [oc_o h 10 [.ref t, .null, .null, .null, .null, .null, .int (nI 0), .int (nI 0)]]) (k1 := 2) (k2 := 2402) (As := []) (rest := [.ref q_1, .ref h]) (k := 0) hF hP hD hS (ct_cw_init l g q_1) wc_CW_init wn_CW ml_WR_17 wi_CW_init rfl (by decide) [1] [0] ⟨rfl, rfl, by decide, by decide, by decide⟩ ⟨⟨Nat.le_of_ble_eq_true rfl, Nat.le_of_ble_eq_true rfl⟩, rfl, rfl, Nat.le_of_ble_eq_true rfl, Nat.le_of_ble_eq_true rfl⟩ rfl hl.1 rfl (Nat.le_of_ble_eq_true rfl) dd_WR_init_14 (fun q_2 H locs hp hP hD hS => ?_)
  have hP : va_P g.1 vwCl [oc_o h 10 [.ref t, .null, .null, .null, .null, .null, .int (nI 0), .int (nI 0)], oc_o q_1 3 [.ref q_2, .int (nI 0)]] H := hP
  have hD : va_D A [oc_o h 10 [.ref t, .null, .null, .null, .null, .null, .int (nI 0), .int (nI 0)], oc_o q_1 3 [.ref q_2, .int (nI 0)]] := hD
  refine pf_WR_18 hin hx hb hts hown hK hP hD hS 0 rfl rfl rfl (Nat.le_of_ble_eq_true rfl) dd_WR_init_17 (fun H locs hP hD hS => ?_)
  have hP : va_P g.1 vwCl [oc_o h 10 [.ref t, .ref q_1, .null, .null, .null, .null, .int (nI 0), .int (nI 0)], oc_o q_1 3 [.ref q_2, .int (nI 0)]] H := hP
  have hD : va_D A [oc_o h 10 [.ref t, .ref q_1, .null, .null, .null, .null, .int (nI 0), .int (nI 0)], oc_o q_1 3 [.ref q_2, .int (nI 0)]] := hD
  refine lv_aload_n hx hb dd_WR_init_20 rfl (lv_at hl 0 rfl) ?_
  refine nw_WR_22 (k1 := 3) (k2 := 2405) hx hb hts hown hK hP hD hS hA rfl rfl (Nat.le_of_ble_eq_true rfl) (Nat.le_of_ble_eq_true rfl) dd_WR_init_21 (fun q_4 H hP hD hS => ?_)
  have hP : va_P g.1 vwCl [oc_o h 10 [.ref t, .ref q_1, .null, .null, .null, .null, .int (nI 0), .int (nI 0)], oc_o q_1 3 [.ref q_2, .int (nI 0)], oc_o q_4 9 [.null, .null, .int (nI 0)]] H := hP
  have hD : va_D A [oc_o h 10 [.ref t, .ref q_1, .null, .null, .null, .null, .int (nI 0), .int (nI 0)], oc_o q_1 3 [.ref q_2, .int (nI 0)], oc_o q_4 9 [.null, .null, .int (nI 0)]] := hD
  refine lv_dup hx hb dd_WR_init_24 rfl ?_
  refine lv_aload_n hx hb dd_WR_init_25 rfl (lv_at hl 0 rfl) ?_
  refine gf_WR_18 hx hb hts hown hK hP 0 rfl rfl dd_WR_init_26 ?_
  refine xc_Iv (wr := [oc_o h 10 [.ref t, .ref q_1, .null, .null, .null, .null, .int (nI 0), .int (nI 0)], oc_o q_1 3 [.ref q_2, .int (nI 0)]]) (k1 := 3) (k2 := 2405) (As := [.ref q_1]) (rest := [.ref q_4, .ref h]) (k := 1) hF hP hD hS (ct_tw_init l g q_4 q_1) wc_TW_init wn_TW ml_WR_24 wi_TW_init rfl (by decide) [2] [0, 1] ⟨rfl, rfl, by decide, by decide, by decide⟩ ⟨⟨Nat.le_of_ble_eq_true rfl, Nat.le_of_ble_eq_true rfl⟩, rfl, rfl, Nat.le_of_ble_eq_true rfl, Nat.le_of_ble_eq_true rfl⟩ rfl hl.1 rfl (Nat.le_of_ble_eq_true rfl) dd_WR_init_29 (fun v_5 H locs hp hP hD hS => ?_)
  have hP : va_P g.1 vwCl [oc_o h 10 [.ref t, .ref q_1, .null, .null, .null, .null, .int (nI 0), .int (nI 0)], oc_o q_1 3 [.ref q_2, .int (nI 0)], oc_o q_4 9 [.ref q_1, v_5, .int (-1)]] H := hP
  have hD : va_D A [oc_o h 10 [.ref t, .ref q_1, .null, .null, .null, .null, .int (nI 0), .int (nI 0)], oc_o q_1 3 [.ref q_2, .int (nI 0)], oc_o q_4 9 [.ref q_1, v_5, .int (-1)]] := hD
  refine pf_WR_27 hin hx hb hts hown hK hP hD hS 0 rfl rfl rfl (Nat.le_of_ble_eq_true rfl) dd_WR_init_32 (fun H locs hP hD hS => ?_)
  have hP : va_P g.1 vwCl [oc_o h 10 [.ref t, .ref q_1, .ref q_4, .null, .null, .null, .int (nI 0), .int (nI 0)], oc_o q_1 3 [.ref q_2, .int (nI 0)], oc_o q_4 9 [.ref q_1, v_5, .int (-1)]] H := hP
  have hD : va_D A [oc_o h 10 [.ref t, .ref q_1, .ref q_4, .null, .null, .null, .int (nI 0), .int (nI 0)], oc_o q_1 3 [.ref q_2, .int (nI 0)], oc_o q_4 9 [.ref q_1, v_5, .int (-1)]] := hD
  refine lv_aload_n hx hb dd_WR_init_35 rfl (lv_at hl 0 rfl) ?_
  refine nw_WR_31 (k1 := 4) (k2 := 2407) hx hb hts hown hK hP hD hS hA rfl rfl (Nat.le_of_ble_eq_true rfl) (Nat.le_of_ble_eq_true rfl) dd_WR_init_36 (fun q_7 H hP hD hS => ?_)
  have hP : va_P g.1 vwCl [oc_o h 10 [.ref t, .ref q_1, .ref q_4, .null, .null, .null, .int (nI 0), .int (nI 0)], oc_o q_1 3 [.ref q_2, .int (nI 0)], oc_o q_4 9 [.ref q_1, v_5, .int (-1)], oc_o q_7 1 [.int (nI 0), .null]] H := hP
  have hD : va_D A [oc_o h 10 [.ref t, .ref q_1, .ref q_4, .null, .null, .null, .int (nI 0), .int (nI 0)], oc_o q_1 3 [.ref q_2, .int (nI 0)], oc_o q_4 9 [.ref q_1, v_5, .int (-1)], oc_o q_7 1 [.int (nI 0), .null]] := hD
  refine lv_dup hx hb dd_WR_init_39 rfl ?_
  refine lv_sipush (v := nI 900) hx hb dd_WR_init_40 (by decide) ?_
  refine lv_bipush (v := nI 15) hx hb dd_WR_init_43 (by decide) ?_
  refine xc_Iv (wr := [oc_o h 10 [.ref t, .ref q_1, .ref q_4, .null, .null, .null, .int (nI 0), .int (nI 0)], oc_o q_1 3 [.ref q_2, .int (nI 0)], oc_o q_4 9 [.ref q_1, v_5, .int (-1)]]) (k1 := 5) (k2 := 2422) (As := [.int (nI 900), .int (nI 15)]) (rest := [.ref q_7, .ref h]) (k := 2) hF hP hD hS (ct_bn_init15 l g q_7) wc_BN_init wn_BN ml_WR_33 wi_BN_init rfl (by decide) [3] [0, 1, 2] ⟨rfl, rfl, by decide, by decide, by decide⟩ ⟨⟨Nat.le_of_ble_eq_true rfl, Nat.le_of_ble_eq_true rfl⟩, rfl, rfl, Nat.le_of_ble_eq_true rfl, Nat.le_of_ble_eq_true rfl⟩ rfl hl.1 rfl (Nat.le_of_ble_eq_true rfl) dd_WR_init_45 (fun u H locs hp hP hD hS => ?_)
  have hP : va_P g.1 vwCl [oc_o h 10 [.ref t, .ref q_1, .ref q_4, .null, .null, .null, .int (nI 0), .int (nI 0)], oc_o q_1 3 [.ref q_2, .int (nI 0)], oc_o q_4 9 [.ref q_1, v_5, .int (-1)]] H := hP
  have hD : va_D A [oc_o h 10 [.ref t, .ref q_1, .ref q_4, .null, .null, .null, .int (nI 0), .int (nI 0)], oc_o q_1 3 [.ref q_2, .int (nI 0)], oc_o q_4 9 [.ref q_1, v_5, .int (-1)]] := hD
  refine pf_WR_36 hin hx hb hts hown hK hP hD hS 0 rfl rfl rfl (Nat.le_of_ble_eq_true rfl) dd_WR_init_48 (fun H locs hP hD hS => ?_)
  have hP : va_P g.1 vwCl [oc_o h 10 [.ref t, .ref q_1, .ref q_4, .ref q_7, .null, .null, .int (nI 0), .int (nI 0)], oc_o q_1 3 [.ref q_2, .int (nI 0)], oc_o q_4 9 [.ref q_1, v_5, .int (-1)]] H := hP
  have hD : va_D A [oc_o h 10 [.ref t, .ref q_1, .ref q_4, .ref q_7, .null, .null, .int (nI 0), .int (nI 0)], oc_o q_1 3 [.ref q_2, .int (nI 0)], oc_o q_4 9 [.ref q_1, v_5, .int (-1)]] := hD
  refine lv_aload_n hx hb dd_WR_init_51 rfl (lv_at hl 0 rfl) ?_
  refine lv_sipush (v := nI 1201) hx hb dd_WR_init_52 (by decide) ?_
  refine xa_newI (k1 := 6) (k2 := 3623) hx hb (hts _ wa_int) hK hP hD hS hA (by decide) rfl rfl (Nat.le_of_ble_eq_true rfl) (Nat.le_of_ble_eq_true rfl) dd_WR_init_55 (fun q_9 H hP hD hS => ?_)
  have hP : va_P g.1 vwCl [oc_o h 10 [.ref t, .ref q_1, .ref q_4, .ref q_7, .null, .null, .int (nI 0), .int (nI 0)], oc_o q_1 3 [.ref q_2, .int (nI 0)], oc_o q_4 9 [.ref q_1, v_5, .int (-1)], oc_i g q_9 1201 (fun _ => 0)] H := hP
  have hD : va_D A [oc_o h 10 [.ref t, .ref q_1, .ref q_4, .ref q_7, .null, .null, .int (nI 0), .int (nI 0)], oc_o q_1 3 [.ref q_2, .int (nI 0)], oc_o q_4 9 [.ref q_1, v_5, .int (-1)], oc_i g q_9 1201 (fun _ => 0)] := hD
  refine pf_WR_40 hin hx hb hts hown hK hP hD hS 0 rfl rfl rfl (Nat.le_of_ble_eq_true rfl) dd_WR_init_57 (fun H locs hP hD hS => ?_)
  have hP : va_P g.1 vwCl [oc_o h 10 [.ref t, .ref q_1, .ref q_4, .ref q_7, .ref q_9, .null, .int (nI 0), .int (nI 0)], oc_o q_1 3 [.ref q_2, .int (nI 0)], oc_o q_4 9 [.ref q_1, v_5, .int (-1)], oc_i g q_9 1201 (fun _ => 0)] H := hP
  have hD : va_D A [oc_o h 10 [.ref t, .ref q_1, .ref q_4, .ref q_7, .ref q_9, .null, .int (nI 0), .int (nI 0)], oc_o q_1 3 [.ref q_2, .int (nI 0)], oc_o q_4 9 [.ref q_1, v_5, .int (-1)], oc_i g q_9 1201 (fun _ => 0)] := hD
  refine lv_aload_n hx hb dd_WR_init_60 rfl (lv_at hl 0 rfl) ?_
  refine lv_sipush (v := nI 1201) hx hb dd_WR_init_61 (by decide) ?_
  refine xa_newI (k1 := 7) (k2 := 4824) hx hb (hts _ wa_int) hK hP hD hS hA (by decide) rfl rfl (Nat.le_of_ble_eq_true rfl) (Nat.le_of_ble_eq_true rfl) dd_WR_init_64 (fun q_10 H hP hD hS => ?_)
  have hP : va_P g.1 vwCl [oc_o h 10 [.ref t, .ref q_1, .ref q_4, .ref q_7, .ref q_9, .null, .int (nI 0), .int (nI 0)], oc_o q_1 3 [.ref q_2, .int (nI 0)], oc_o q_4 9 [.ref q_1, v_5, .int (-1)], oc_i g q_9 1201 (fun _ => 0), oc_i g q_10 1201 (fun _ => 0)] H := hP
  have hD : va_D A [oc_o h 10 [.ref t, .ref q_1, .ref q_4, .ref q_7, .ref q_9, .null, .int (nI 0), .int (nI 0)], oc_o q_1 3 [.ref q_2, .int (nI 0)], oc_o q_4 9 [.ref q_1, v_5, .int (-1)], oc_i g q_9 1201 (fun _ => 0), oc_i g q_10 1201 (fun _ => 0)] := hD
  refine pf_WR_44 hin hx hb hts hown hK hP hD hS 0 rfl rfl rfl (Nat.le_of_ble_eq_true rfl) dd_WR_init_66 (fun H locs hP hD hS => ?_)
  have hP : va_P g.1 vwCl [oc_o h 10 [.ref t, .ref q_1, .ref q_4, .ref q_7, .ref q_9, .ref q_10, .int (nI 0), .int (nI 0)], oc_o q_1 3 [.ref q_2, .int (nI 0)], oc_o q_4 9 [.ref q_1, v_5, .int (-1)], oc_i g q_9 1201 (fun _ => 0), oc_i g q_10 1201 (fun _ => 0)] H := hP
  have hD : va_D A [oc_o h 10 [.ref t, .ref q_1, .ref q_4, .ref q_7, .ref q_9, .ref q_10, .int (nI 0), .int (nI 0)], oc_o q_1 3 [.ref q_2, .int (nI 0)], oc_o q_4 9 [.ref q_1, v_5, .int (-1)], oc_i g q_9 1201 (fun _ => 0), oc_i g q_10 1201 (fun _ => 0)] := hD
  refine lv_aload_n hx hb dd_WR_init_69 rfl (lv_at hl 0 rfl) ?_
  refine lv_sipush (v := nI 900) hx hb dd_WR_init_70 (by decide) ?_
  refine pf_WR_47 hx hb hts hown hK hP hD hS 0 rfl rfl rfl (Nat.le_of_ble_eq_true rfl) dd_WR_init_73 (fun H locs hP hD hS => ?_)
  have hP : va_P g.1 vwCl [oc_o h 10 [.ref t, .ref q_1, .ref q_4, .ref q_7, .ref q_9, .ref q_10, .int (nI 900), .int (nI 0)], oc_o q_1 3 [.ref q_2, .int (nI 0)], oc_o q_4 9 [.ref q_1, v_5, .int (-1)], oc_i g q_9 1201 (fun _ => 0), oc_i g q_10 1201 (fun _ => 0)] H := hP
  have hD : va_D A [oc_o h 10 [.ref t, .ref q_1, .ref q_4, .ref q_7, .ref q_9, .ref q_10, .int (nI 900), .int (nI 0)], oc_o q_1 3 [.ref q_2, .int (nI 0)], oc_o q_4 9 [.ref q_1, v_5, .int (-1)], oc_i g q_9 1201 (fun _ => 0), oc_i g q_10 1201 (fun _ => 0)] := hD
  refine lv_aload_n hx hb dd_WR_init_76 rfl (lv_at hl 0 rfl) ?_
  refine lv_iconst (v := nI 0) hx hb dd_WR_init_77 (by decide) ?_
  refine pf_WR_51 hx hb hts hown hK hP hD hS 0 rfl (by decide) (by decide) (Nat.le_of_ble_eq_true rfl) dd_WR_init_78 (fun H locs hP hD hS => ?_)
  have hP : va_P g.1 vwCl [oc_o h 10 [.ref t, .ref q_1, .ref q_4, .ref q_7, .ref q_9, .ref q_10, .int (nI 900), .int (nI 0)], oc_o q_1 3 [.ref q_2, .int (nI 0)], oc_o q_4 9 [.ref q_1, v_5, .int (-1)], oc_i g q_9 1201 (fun _ => 0), oc_i g q_10 1201 (fun _ => 0)] H := hP
  have hD : va_D A [oc_o h 10 [.ref t, .ref q_1, .ref q_4, .ref q_7, .ref q_9, .ref q_10, .int (nI 900), .int (nI 0)], oc_o q_1 3 [.ref q_2, .int (nI 0)], oc_o q_4 9 [.ref q_1, v_5, .int (-1)], oc_i g q_9 1201 (fun _ => 0), oc_i g q_10 1201 (fun _ => 0)] := hD
  exact xr_v hx hb hr hlk hQ hP hD hS (q_1, q_4, q_7, q_9, q_10, q_2, v_5) trivial [0, 1, 2, 3, 4] (by decide) rfl (Nat.le_of_ble_eq_true rfl) (Nat.le_of_ble_eq_true rfl) dd_WR_init_81

set_option maxHeartbeats 4000000 in
set_option maxRecDepth 100000 in
theorem ct_wr_forget (l : Launch) (g : xg_G) (h : Nat) (t : Nat) (o : Nat) (x : Nat) (n : Nat) (d : Nat) (e9 : Nat) : kc_V l yy_WR_forget cd_WR_forget 1 { frames := 0, cells := 0, slots := 0, locals := 0 } g [.ref h] [oc_o h 10 [.ref t, .ref o, .ref x, .ref n, .ref d, .ref e9, .int (nI 900), .int (nI 0)]] (S := Unit) (fun _ => True) (fun _ => [oc_o h 10 [.ref t, .ref o, .ref x, .ref n, .ref d, .ref e9, .int (nI 900), .int (nI 0)]]) := by
  refine kc_Vof (by decide) (Nat.le_of_ble_eq_true rfl) ?_
  intro p e s m args below meth c A ls Q H locs hQ hB hP hS
  obtain ⟨hx, hb, hr, hlk, hin, hml, hown, hts, hA, hK, hD, hE, hl⟩ := hB
  have hF : xf_F g p m c cd_WR_forget 1 s args "StackedRows$Writer" A := ⟨⟨hx, hb, hml, hown, hts⟩, hE, hK, hA⟩
  have hl : lv_has ls 1 [(0, .ref h)] := hl
  have hown : s.vm.findClass "StackedRows$Writer" = some m.cls := hown
  refine lv_aload_n hx hb dd_WR_forget_0 rfl (lv_at hl 0 rfl) ?_
  refine lv_iconst (v := nI 0) hx hb dd_WR_forget_1 (by decide) ?_
  refine pf_WR_51 hx hb hts hown hK hP hD hS 0 rfl (by decide) (by decide) (Nat.le_of_ble_eq_true rfl) dd_WR_forget_2 (fun H locs hP hD hS => ?_)
  have hP : va_P g.1 vwCl [oc_o h 10 [.ref t, .ref o, .ref x, .ref n, .ref d, .ref e9, .int (nI 900), .int (nI 0)]] H := hP
  have hD : va_D A [oc_o h 10 [.ref t, .ref o, .ref x, .ref n, .ref d, .ref e9, .int (nI 900), .int (nI 0)]] := hD
  exact xr_v hx hb hr hlk hQ hP hD hS () trivial [0] (by decide) rfl (Nat.le_of_ble_eq_true rfl) (Nat.le_of_ble_eq_true rfl) dd_WR_forget_5

set_option maxHeartbeats 4000000 in
set_option maxRecDepth 100000 in
theorem ct_wr_size (l : Launch) (g : xg_G) (h : Nat) (t : Nat) (o : Nat) (x : Nat) (n : Nat) (d : Nat) (e9 : Nat) (b : Nat) (k : Nat) (fr : Int32) : kc_I l yy_WR_size cd_WR_size 1 .int { frames := 1, cells := 0, slots := 0, locals := 20 } g [.ref h] [oc_o h 10 [.ref t, .ref o, .ref x, .ref n, .ref d, .ref e9, .int (nI 900), .int fr], oc_o o 3 [.ref b, .int (nI k)]] (S := Unit) (fun r0 _ => r0 = nI k) (fun _ => [oc_o h 10 [.ref t, .ref o, .ref x, .ref n, .ref d, .ref e9, .int (nI 900), .int fr], oc_o o 3 [.ref b, .int (nI k)]]) := by
  refine kc_Iof (by decide) (Nat.le_of_ble_eq_true rfl) ?_
  intro p e s m args below meth c A ls Q H locs hQ hB hP hS
  obtain ⟨hx, hb, hr, hlk, hin, hml, hown, hts, hA, hK, hD, hE, hl⟩ := hB
  have hF : xf_F g p m c cd_WR_size 1 s args "StackedRows$Writer" A := ⟨⟨hx, hb, hml, hown, hts⟩, hE, hK, hA⟩
  have hl : lv_has ls 1 [(0, .ref h)] := hl
  have hown : s.vm.findClass "StackedRows$Writer" = some m.cls := hown
  refine lv_aload_n hx hb dd_WR_size_0 rfl (lv_at hl 0 rfl) ?_
  refine gf_WR_18 hx hb hts hown hK hP 0 rfl rfl dd_WR_size_1 ?_
  refine xc_Vi (wr := [oc_o h 10 [.ref t, .ref o, .ref x, .ref n, .ref d, .ref e9, .int (nI 900), .int fr]]) (k1 := 0) (k2 := 0) (As := []) (rest := []) (k := 0) hF hP hD hS (ct_cw_size l g o b k) (xt_V ml_WR_55 wi_CW_size wx_CW_size wn_CW wc_CW_size) (by decide) 1 rfl rfl rfl [1] [0] ⟨rfl, rfl, by decide, by decide, by decide⟩ ⟨⟨Nat.le_of_ble_eq_true rfl, Nat.le_of_ble_eq_true rfl⟩, rfl, rfl, Nat.le_of_ble_eq_true rfl, Nat.le_of_ble_eq_true rfl⟩ rfl hl.1 rfl (Nat.le_of_ble_eq_true rfl) dd_WR_size_4 (fun r_1 u H locs hp hP hD hS => ?_)
  obtain rfl := hp
  have hP : va_P g.1 vwCl [oc_o h 10 [.ref t, .ref o, .ref x, .ref n, .ref d, .ref e9, .int (nI 900), .int fr], oc_o o 3 [.ref b, .int (nI k)]] H := hP
  have hD : va_D A [oc_o h 10 [.ref t, .ref o, .ref x, .ref n, .ref d, .ref e9, .int (nI 900), .int fr], oc_o o 3 [.ref b, .int (nI k)]] := hD
  exact xr_i hx hb hr hlk hQ hP hD hS () (by first | rfl | exact congrArg nI (by omega)) [0, 1] (by decide) rfl rfl (Nat.le_of_ble_eq_true rfl) (Nat.le_of_ble_eq_true rfl) dd_WR_size_7

set_option maxHeartbeats 4000000 in
set_option maxRecDepth 100000 in
theorem ct_wr_measure (l : Launch) (g : xg_G) (h : Nat) (t : Nat) (o : Nat) (x : Nat) (n : Nat) (d : Nat) (e9 : Nat) (fr : Int32) (f : Nat → Int32) (f1 : Nat → Int32) : kc_V l yy_WR_measure cd_WR_measure 3 { frames := 0, cells := 0, slots := 0, locals := 0 } g [.ref h, .int (nI 0)] [oc_o h 10 [.ref t, .ref o, .ref x, .ref n, .ref d, .ref e9, .int (nI 900), .int fr], oc_i g d 1201 f, oc_i g e9 1201 f1] (S := (Nat → Int32) × (Nat → Int32)) (fun _ => True) (fun u0 => [oc_o h 10 [.ref t, .ref o, .ref x, .ref n, .ref d, .ref e9, .int (nI 900), .int fr], oc_i g d 1201 u0.1, oc_i g e9 1201 u0.2]) := by
  refine kc_Vof (by decide) (Nat.le_of_ble_eq_true rfl) ?_
  intro p e s m args below meth c A ls Q H locs hQ hB hP hS
  obtain ⟨hx, hb, hr, hlk, hin, hml, hown, hts, hA, hK, hD, hE, hl⟩ := hB
  have hF : xf_F g p m c cd_WR_measure 3 s args "StackedRows$Writer" A := ⟨⟨hx, hb, hml, hown, hts⟩, hE, hK, hA⟩
  have hl : lv_has ls 3 [(0, .ref h), (1, .int (nI 0))] := hl
  have hown : s.vm.findClass "StackedRows$Writer" = some m.cls := hown
  refine lv_aload_n hx hb dd_WR_measure_0 rfl (lv_at hl 0 rfl) ?_
  refine gf_WR_40 hx hb hts hown hK hP 0 rfl rfl dd_WR_measure_1 ?_
  refine lv_iload_n hx hb dd_WR_measure_4 rfl (lv_at hl 1 rfl) ?_
  refine lv_iconst (v := nI 0) hx hb dd_WR_measure_5 (by decide) ?_
  refine xa_st hx hb hK hP hD hS 1 rfl (j := 0) (by omega) (by omega) dd_WR_measure_6 (fun f_1 H locs hP hD hS => ?_)
  have hP : va_P g.1 vwCl [oc_o h 10 [.ref t, .ref o, .ref x, .ref n, .ref d, .ref e9, .int (nI 900), .int fr], oc_i g d 1201 f_1, oc_i g e9 1201 f1] H := hP
  have hD : va_D A [oc_o h 10 [.ref t, .ref o, .ref x, .ref n, .ref d, .ref e9, .int (nI 900), .int fr], oc_i g d 1201 f_1, oc_i g e9 1201 f1] := hD
  refine lv_aload_n hx hb dd_WR_measure_7 rfl (lv_at hl 0 rfl) ?_
  refine gf_WR_44 hx hb hts hown hK hP 0 rfl rfl dd_WR_measure_8 ?_
  refine lv_iload_n hx hb dd_WR_measure_11 rfl (lv_at hl 1 rfl) ?_
  refine lv_iconst (v := nI 0) hx hb dd_WR_measure_12 (by decide) ?_
  refine xa_st hx hb hK hP hD hS 2 rfl (j := 0) (by omega) (by omega) dd_WR_measure_13 (fun f_2 H locs hP hD hS => ?_)
  have hP : va_P g.1 vwCl [oc_o h 10 [.ref t, .ref o, .ref x, .ref n, .ref d, .ref e9, .int (nI 900), .int fr], oc_i g d 1201 f_1, oc_i g e9 1201 f_2] H := hP
  have hD : va_D A [oc_o h 10 [.ref t, .ref o, .ref x, .ref n, .ref d, .ref e9, .int (nI 900), .int fr], oc_i g d 1201 f_1, oc_i g e9 1201 f_2] := hD
  refine lv_iload_n hx hb dd_WR_measure_14 rfl (lv_at hl 1 rfl) ?_
  refine lv_iconst (v := nI 1) hx hb dd_WR_measure_15 (by decide) ?_
  refine lv_isub hx hb dd_WR_measure_16 (xi_eq (v := -1) (by decide) ?_)
  refine lv_istore_n (lv' := [(2, .int (-1)), (0, .ref h), (1, .int (nI 0))]) hx hb dd_WR_measure_17 rfl hl (by decide) rfl (fun ls hl => ?_)
  refine lv_iload_n hx hb dd_WR_measure_18 rfl (lv_at hl 0 rfl) ?_
  refine lv_if_lt (tgt := 101) hx hb dd_WR_measure_19 rfl (fun _ => ?_) (fun h_3 => absurd (by decide) h_3)
  exact xr_v hx hb hr hlk hQ hP hD hS (f_1, f_2) trivial [0, 1, 2] (by decide) rfl (Nat.le_of_ble_eq_true rfl) (Nat.le_of_ble_eq_true rfl) dd_WR_measure_101

set_option maxHeartbeats 4000000 in
set_option maxRecDepth 100000 in
theorem ct_wr_write (l : Launch) (g : xg_G) (h : Nat) (t : Nat) (o : Nat) (x : Nat) (n : Nat) (d : Nat) (e9 : Nat) (tb : Nat) (b : Nat) (w : Value) (f : Nat → Int32) (f1 : Nat → Int32) : kc_V l yy_WR_write cd_WR_write 3 { frames := 1, cells := 0, slots := 0, locals := 22 } g [.ref h] [oc_o h 10 [.ref t, .ref o, .ref x, .ref n, .ref d, .ref e9, .int (nI 900), .int (nI 0)], oc_o t 8 [.ref tb, .int (nI 0)], oc_o o 3 [.ref b, .int (nI 0)], oc_o x 9 [.ref o, w, .int (-1)], oc_i g d 1201 f, oc_i g e9 1201 f1] (S := Value × (Nat → Int32) × (Nat → Int32)) (fun _ => True) (fun u0 => [oc_o h 10 [.ref t, .ref o, .ref x, .ref n, .ref d, .ref e9, .int (nI 900), .int (nI 1)], oc_o t 8 [.ref tb, .int (nI 0)], oc_o o 3 [.ref b, .int (nI 0)], oc_o x 9 [.ref o, u0.1, .int (-1)], oc_i g d 1201 u0.2.1, oc_i g e9 1201 u0.2.2]) := by
  refine kc_Vof (by decide) (Nat.le_of_ble_eq_true rfl) ?_
  intro p e s m args below meth c A ls Q H locs hQ hB hP hS
  obtain ⟨hx, hb, hr, hlk, hin, hml, hown, hts, hA, hK, hD, hE, hl⟩ := hB
  have hF : xf_F g p m c cd_WR_write 3 s args "StackedRows$Writer" A := ⟨⟨hx, hb, hml, hown, hts⟩, hE, hK, hA⟩
  have hl : lv_has ls 3 [(0, .ref h)] := hl
  have hown : s.vm.findClass "StackedRows$Writer" = some m.cls := hown
  refine lv_aload_n hx hb dd_WR_write_0 rfl (lv_at hl 0 rfl) ?_
  refine gf_WR_51 hx hb hts hown hK hP 0 rfl rfl dd_WR_write_1 ?_
  refine lv_if_eq (tgt := 8) hx hb dd_WR_write_4 rfl (fun _ => ?_) (fun h_1 => absurd (by decide) h_1)
  refine lv_aload_n hx hb dd_WR_write_8 rfl (lv_at hl 0 rfl) ?_
  refine lv_iconst (v := nI 1) hx hb dd_WR_write_9 (by decide) ?_
  refine pf_WR_51 hx hb hts hown hK hP hD hS 0 rfl (by decide) (by decide) (Nat.le_of_ble_eq_true rfl) dd_WR_write_10 (fun H locs hP hD hS => ?_)
  have hP : va_P g.1 vwCl [oc_o h 10 [.ref t, .ref o, .ref x, .ref n, .ref d, .ref e9, .int (nI 900), .int (nI 1)], oc_o t 8 [.ref tb, .int (nI 0)], oc_o o 3 [.ref b, .int (nI 0)], oc_o x 9 [.ref o, w, .int (-1)], oc_i g d 1201 f, oc_i g e9 1201 f1] H := hP
  have hD : va_D A [oc_o h 10 [.ref t, .ref o, .ref x, .ref n, .ref d, .ref e9, .int (nI 900), .int (nI 1)], oc_o t 8 [.ref tb, .int (nI 0)], oc_o o 3 [.ref b, .int (nI 0)], oc_o x 9 [.ref o, w, .int (-1)], oc_i g d 1201 f, oc_i g e9 1201 f1] := hD
  refine lv_aload_n hx hb dd_WR_write_13 rfl (lv_at hl 0 rfl) ?_
  refine lv_aload_n hx hb dd_WR_write_14 rfl (lv_at hl 0 rfl) ?_
  refine gf_WR_9 hx hb hts hown hK hP 0 rfl rfl dd_WR_write_15 ?_
  refine xc_Vi (wr := [oc_o h 10 [.ref t, .ref o, .ref x, .ref n, .ref d, .ref e9, .int (nI 900), .int (nI 1)], oc_o o 3 [.ref b, .int (nI 0)], oc_o x 9 [.ref o, w, .int (-1)], oc_i g d 1201 f, oc_i g e9 1201 f1]) (k1 := 0) (k2 := 0) (As := []) (rest := [.ref h]) (k := 0) hF hP hD hS (ct_tape_size l g t tb 0) (xt_V ml_WR_63 wi_TP_size wx_TP_size wn_TP wc_TP_size) (by decide) 1 rfl rfl rfl [1] [0, 2, 3, 4, 5] ⟨rfl, rfl, by decide, by decide, by decide⟩ ⟨⟨Nat.le_of_ble_eq_true rfl, Nat.le_of_ble_eq_true rfl⟩, rfl, rfl, Nat.le_of_ble_eq_true rfl, Nat.le_of_ble_eq_true rfl⟩ rfl hl.1 rfl (Nat.le_of_ble_eq_true rfl) dd_WR_write_18 (fun r_2 u H locs hp hP hD hS => ?_)
  obtain rfl := hp
  have hP : va_P g.1 vwCl [oc_o h 10 [.ref t, .ref o, .ref x, .ref n, .ref d, .ref e9, .int (nI 900), .int (nI 1)], oc_o o 3 [.ref b, .int (nI 0)], oc_o x 9 [.ref o, w, .int (-1)], oc_i g d 1201 f, oc_i g e9 1201 f1, oc_o t 8 [.ref tb, .int (nI 0)]] H := hP
  have hD : va_D A [oc_o h 10 [.ref t, .ref o, .ref x, .ref n, .ref d, .ref e9, .int (nI 900), .int (nI 1)], oc_o o 3 [.ref b, .int (nI 0)], oc_o x 9 [.ref o, w, .int (-1)], oc_i g d 1201 f, oc_i g e9 1201 f1, oc_o t 8 [.ref tb, .int (nI 0)]] := hD
  refine xc_Vv (wr := [oc_o o 3 [.ref b, .int (nI 0)], oc_o x 9 [.ref o, w, .int (-1)], oc_o t 8 [.ref tb, .int (nI 0)]]) (k1 := 0) (k2 := 0) (As := [.int (nI 0)]) (rest := []) (k := 1) hF hP hD hS (ct_wr_measure l g h t o x n d e9 (nI 1) f f1) (xt_V ml_WR_66 wi_WR_measure wx_WR_measure wn_WR wc_WR_measure) (by decide) 0 rfl rfl rfl [0, 3, 4] [1, 2, 5] ⟨rfl, rfl, by decide, by decide, by decide⟩ ⟨⟨Nat.le_of_ble_eq_true rfl, Nat.le_of_ble_eq_true rfl⟩, rfl, rfl, Nat.le_of_ble_eq_true rfl, Nat.le_of_ble_eq_true rfl⟩ rfl hl.1 rfl (Nat.le_of_ble_eq_true rfl) dd_WR_write_21 (fun u H locs hp hP hD hS => ?_)
  obtain ⟨f_3, f_4⟩ := u
  have hP : va_P g.1 vwCl [oc_o o 3 [.ref b, .int (nI 0)], oc_o x 9 [.ref o, w, .int (-1)], oc_o t 8 [.ref tb, .int (nI 0)], oc_o h 10 [.ref t, .ref o, .ref x, .ref n, .ref d, .ref e9, .int (nI 900), .int (nI 1)], oc_i g d 1201 f_3, oc_i g e9 1201 f_4] H := hP
  have hD : va_D A [oc_o o 3 [.ref b, .int (nI 0)], oc_o x 9 [.ref o, w, .int (-1)], oc_o t 8 [.ref tb, .int (nI 0)], oc_o h 10 [.ref t, .ref o, .ref x, .ref n, .ref d, .ref e9, .int (nI 900), .int (nI 1)], oc_i g d 1201 f_3, oc_i g e9 1201 f_4] := hD
  refine lv_aload_n hx hb dd_WR_write_24 rfl (lv_at hl 0 rfl) ?_
  refine lv_sipush (v := nI 900) hx hb dd_WR_write_25 (by decide) ?_
  refine pf_WR_47 hx hb hts hown hK hP hD hS 3 rfl rfl rfl (Nat.le_of_ble_eq_true rfl) dd_WR_write_28 (fun H locs hP hD hS => ?_)
  have hP : va_P g.1 vwCl [oc_o o 3 [.ref b, .int (nI 0)], oc_o x 9 [.ref o, w, .int (-1)], oc_o t 8 [.ref tb, .int (nI 0)], oc_o h 10 [.ref t, .ref o, .ref x, .ref n, .ref d, .ref e9, .int (nI 900), .int (nI 1)], oc_i g d 1201 f_3, oc_i g e9 1201 f_4] H := hP
  have hD : va_D A [oc_o o 3 [.ref b, .int (nI 0)], oc_o x 9 [.ref o, w, .int (-1)], oc_o t 8 [.ref tb, .int (nI 0)], oc_o h 10 [.ref t, .ref o, .ref x, .ref n, .ref d, .ref e9, .int (nI 900), .int (nI 1)], oc_i g d 1201 f_3, oc_i g e9 1201 f_4] := hD
  refine lv_aload_n hx hb dd_WR_write_31 rfl (lv_at hl 0 rfl) ?_
  refine gf_WR_27 hx hb hts hown hK hP 3 rfl rfl dd_WR_write_32 ?_
  refine xc_Vv (wr := [oc_o o 3 [.ref b, .int (nI 0)], oc_o t 8 [.ref tb, .int (nI 0)], oc_o h 10 [.ref t, .ref o, .ref x, .ref n, .ref d, .ref e9, .int (nI 900), .int (nI 1)], oc_i g d 1201 f_3, oc_i g e9 1201 f_4]) (k1 := 0) (k2 := 0) (As := []) (rest := []) (k := 0) hF hP hD hS (ct_tw_begin l g x o w (-1)) (xt_V ml_WR_70 wi_TW_beginWithCapitals wx_TW_beginWithCapitals wn_TW wc_TW_beginWithCapitals) (by decide) 1 rfl rfl rfl [1] [0, 2, 3, 4, 5] ⟨rfl, rfl, by decide, by decide, by decide⟩ ⟨⟨Nat.le_of_ble_eq_true rfl, Nat.le_of_ble_eq_true rfl⟩, rfl, rfl, Nat.le_of_ble_eq_true rfl, Nat.le_of_ble_eq_true rfl⟩ rfl hl.1 rfl (Nat.le_of_ble_eq_true rfl) dd_WR_write_35 (fun v_6 H locs hp hP hD hS => ?_)
  have hP : va_P g.1 vwCl [oc_o o 3 [.ref b, .int (nI 0)], oc_o t 8 [.ref tb, .int (nI 0)], oc_o h 10 [.ref t, .ref o, .ref x, .ref n, .ref d, .ref e9, .int (nI 900), .int (nI 1)], oc_i g d 1201 f_3, oc_i g e9 1201 f_4, oc_o x 9 [.ref o, v_6, .int (-1)]] H := hP
  have hD : va_D A [oc_o o 3 [.ref b, .int (nI 0)], oc_o t 8 [.ref tb, .int (nI 0)], oc_o h 10 [.ref t, .ref o, .ref x, .ref n, .ref d, .ref e9, .int (nI 900), .int (nI 1)], oc_i g d 1201 f_3, oc_i g e9 1201 f_4, oc_o x 9 [.ref o, v_6, .int (-1)]] := hD
  refine lv_aload_n hx hb dd_WR_write_38 rfl (lv_at hl 0 rfl) ?_
  refine gf_WR_18 hx hb hts hown hK hP 2 rfl rfl dd_WR_write_39 ?_
  refine xc_Vv (wr := [oc_o t 8 [.ref tb, .int (nI 0)], oc_o h 10 [.ref t, .ref o, .ref x, .ref n, .ref d, .ref e9, .int (nI 900), .int (nI 1)], oc_i g d 1201 f_3, oc_i g e9 1201 f_4, oc_o x 9 [.ref o, v_6, .int (-1)]]) (k1 := 0) (k2 := 0) (As := []) (rest := []) (k := 0) hF hP hD hS (ct_cw_clear l g o b 0) (xt_V ml_WR_73 wi_CW_clear wx_CW_clear wn_CW wc_CW_clear) (by decide) 0 rfl rfl rfl [0] [1, 2, 3, 4, 5] ⟨rfl, rfl, by decide, by decide, by decide⟩ ⟨⟨Nat.le_of_ble_eq_true rfl, Nat.le_of_ble_eq_true rfl⟩, rfl, rfl, Nat.le_of_ble_eq_true rfl, Nat.le_of_ble_eq_true rfl⟩ rfl hl.1 rfl (Nat.le_of_ble_eq_true rfl) dd_WR_write_42 (fun u H locs hp hP hD hS => ?_)
  have hP : va_P g.1 vwCl [oc_o t 8 [.ref tb, .int (nI 0)], oc_o h 10 [.ref t, .ref o, .ref x, .ref n, .ref d, .ref e9, .int (nI 900), .int (nI 1)], oc_i g d 1201 f_3, oc_i g e9 1201 f_4, oc_o x 9 [.ref o, v_6, .int (-1)], oc_o o 3 [.ref b, .int (nI 0)]] H := hP
  have hD : va_D A [oc_o t 8 [.ref tb, .int (nI 0)], oc_o h 10 [.ref t, .ref o, .ref x, .ref n, .ref d, .ref e9, .int (nI 900), .int (nI 1)], oc_i g d 1201 f_3, oc_i g e9 1201 f_4, oc_o x 9 [.ref o, v_6, .int (-1)], oc_o o 3 [.ref b, .int (nI 0)]] := hD
  refine lv_iconst (v := nI 0) hx hb dd_WR_write_45 (by decide) ?_
  refine lv_istore_n (lv' := [(1, .int (nI 0)), (0, .ref h)]) hx hb dd_WR_write_46 rfl hl (by decide) rfl (fun ls hl => ?_)
  refine lv_iconst (v := nI 0) hx hb dd_WR_write_47 (by decide) ?_
  refine lv_istore_n (lv' := [(2, .int (nI 0)), (1, .int (nI 0)), (0, .ref h)]) hx hb dd_WR_write_48 rfl hl (by decide) rfl (fun ls hl => ?_)
  refine lv_iload_n hx hb dd_WR_write_49 rfl (lv_at hl 0 rfl) ?_
  refine lv_aload_n hx hb dd_WR_write_50 rfl (lv_at hl 2 rfl) ?_
  refine gf_WR_9 hx hb hts hown hK hP 1 rfl rfl dd_WR_write_51 ?_
  refine xc_Vi (wr := [oc_o h 10 [.ref t, .ref o, .ref x, .ref n, .ref d, .ref e9, .int (nI 900), .int (nI 1)], oc_i g d 1201 f_3, oc_i g e9 1201 f_4, oc_o x 9 [.ref o, v_6, .int (-1)], oc_o o 3 [.ref b, .int (nI 0)]]) (k1 := 0) (k2 := 0) (As := []) (rest := [.int (nI 0)]) (k := 0) hF hP hD hS (ct_tape_size l g t tb 0) (xt_V ml_WR_63 wi_TP_size wx_TP_size wn_TP wc_TP_size) (by decide) 0 rfl rfl rfl [0] [1, 2, 3, 4, 5] ⟨rfl, rfl, by decide, by decide, by decide⟩ ⟨⟨Nat.le_of_ble_eq_true rfl, Nat.le_of_ble_eq_true rfl⟩, rfl, rfl, Nat.le_of_ble_eq_true rfl, Nat.le_of_ble_eq_true rfl⟩ rfl hl.1 rfl (Nat.le_of_ble_eq_true rfl) dd_WR_write_54 (fun r_9 u H locs hp hP hD hS => ?_)
  obtain rfl := hp
  have hP : va_P g.1 vwCl [oc_o h 10 [.ref t, .ref o, .ref x, .ref n, .ref d, .ref e9, .int (nI 900), .int (nI 1)], oc_i g d 1201 f_3, oc_i g e9 1201 f_4, oc_o x 9 [.ref o, v_6, .int (-1)], oc_o o 3 [.ref b, .int (nI 0)], oc_o t 8 [.ref tb, .int (nI 0)]] H := hP
  have hD : va_D A [oc_o h 10 [.ref t, .ref o, .ref x, .ref n, .ref d, .ref e9, .int (nI 900), .int (nI 1)], oc_i g d 1201 f_3, oc_i g e9 1201 f_4, oc_o x 9 [.ref o, v_6, .int (-1)], oc_o o 3 [.ref b, .int (nI 0)], oc_o t 8 [.ref tb, .int (nI 0)]] := hD
  refine lv_icmp_ge (tgt := 83) hx hb dd_WR_write_57 rfl (fun _ => ?_) (fun h_10 => absurd (by decide) h_10)
  exact xr_v hx hb hr hlk hQ hP hD hS (v_6, f_3, f_4) trivial [0, 5, 4, 3, 1, 2] (by decide) rfl (Nat.le_of_ble_eq_true rfl) (Nat.le_of_ble_eq_true rfl) dd_WR_write_83

set_option maxHeartbeats 4000000 in
set_option maxRecDepth 100000 in
theorem ct_md_init (l : Launch) (g : xg_G) (h : Nat) (rw : Nat) : kc_V l yy_MD_init cd_MD_init 2 { frames := 1, cells := 5, slots := 2565, locals := 12 } g [.ref h, .ref rw] [oc_o h 4 [.null, .null, .null, .null, .null, .null, .int (nI 0), .int (nI 0), .int (nI 0)]] (S := Unit) (fun _ => True) (fun _ => []) := by
  refine kc_Vof (by decide) (Nat.le_of_ble_eq_true rfl) ?_
  intro p e s m args below meth c A ls Q H locs hQ hB hP hS
  obtain ⟨hx, hb, hr, hlk, hin, hml, hown, hts, hA, hK, hD, hE, hl⟩ := hB
  have hF : xf_F g p m c cd_MD_init 2 s args "StackedRows$Mender" A := ⟨⟨hx, hb, hml, hown, hts⟩, hE, hK, hA⟩
  have hl : lv_has ls 2 [(0, .ref h), (1, .ref rw)] := hl
  have hown : s.vm.findClass "StackedRows$Mender" = some m.cls := hown
  refine lv_aload_n hx hb dd_MD_init_0 rfl (lv_at hl 0 rfl) ?_
  refine oi_MD_3 hx hb hts hown hml hl.1 (Nat.le_of_ble_eq_true rfl) (Nat.le_of_ble_eq_true rfl) dd_MD_init_1 ?_
  refine lv_aload_n hx hb dd_MD_init_4 rfl (lv_at hl 0 rfl) ?_
  refine lv_aload_n hx hb dd_MD_init_5 rfl (lv_at hl 1 rfl) ?_
  refine pf_MD_9 hin hx hb hts hown hK hP hD hS 0 rfl rfl rfl (Nat.le_of_ble_eq_true rfl) dd_MD_init_6 (fun H locs hP hD hS => ?_)
  have hP : va_P g.1 vwCl [oc_o h 4 [.ref rw, .null, .null, .null, .null, .null, .int (nI 0), .int (nI 0), .int (nI 0)]] H := hP
  have hD : va_D A [oc_o h 4 [.ref rw, .null, .null, .null, .null, .null, .int (nI 0), .int (nI 0), .int (nI 0)]] := hD
  refine lv_aload_n hx hb dd_MD_init_9 rfl (lv_at hl 0 rfl) ?_
  refine lv_sipush (v := nI 513) hx hb dd_MD_init_10 (by decide) ?_
  refine xa_newI (k1 := 1) (k2 := 513) hx hb (hts _ wa_int) hK hP hD hS hA (by decide) rfl rfl (Nat.le_of_ble_eq_true rfl) (Nat.le_of_ble_eq_true rfl) dd_MD_init_13 (fun q_1 H hP hD hS => ?_)
  have hP : va_P g.1 vwCl [oc_o h 4 [.ref rw, .null, .null, .null, .null, .null, .int (nI 0), .int (nI 0), .int (nI 0)], oc_i g q_1 513 (fun _ => 0)] H := hP
  have hD : va_D A [oc_o h 4 [.ref rw, .null, .null, .null, .null, .null, .int (nI 0), .int (nI 0), .int (nI 0)], oc_i g q_1 513 (fun _ => 0)] := hD
  refine pf_MD_15 hin hx hb hts hown hK hP hD hS 0 rfl rfl rfl (Nat.le_of_ble_eq_true rfl) dd_MD_init_15 (fun H locs hP hD hS => ?_)
  have hP : va_P g.1 vwCl [oc_o h 4 [.ref rw, .ref q_1, .null, .null, .null, .null, .int (nI 0), .int (nI 0), .int (nI 0)], oc_i g q_1 513 (fun _ => 0)] H := hP
  have hD : va_D A [oc_o h 4 [.ref rw, .ref q_1, .null, .null, .null, .null, .int (nI 0), .int (nI 0), .int (nI 0)], oc_i g q_1 513 (fun _ => 0)] := hD
  refine lv_aload_n hx hb dd_MD_init_18 rfl (lv_at hl 0 rfl) ?_
  refine lv_sipush (v := nI 513) hx hb dd_MD_init_19 (by decide) ?_
  refine xa_newI (k1 := 2) (k2 := 1026) hx hb (hts _ wa_int) hK hP hD hS hA (by decide) rfl rfl (Nat.le_of_ble_eq_true rfl) (Nat.le_of_ble_eq_true rfl) dd_MD_init_22 (fun q_2 H hP hD hS => ?_)
  have hP : va_P g.1 vwCl [oc_o h 4 [.ref rw, .ref q_1, .null, .null, .null, .null, .int (nI 0), .int (nI 0), .int (nI 0)], oc_i g q_1 513 (fun _ => 0), oc_i g q_2 513 (fun _ => 0)] H := hP
  have hD : va_D A [oc_o h 4 [.ref rw, .ref q_1, .null, .null, .null, .null, .int (nI 0), .int (nI 0), .int (nI 0)], oc_i g q_1 513 (fun _ => 0), oc_i g q_2 513 (fun _ => 0)] := hD
  refine pf_MD_18 hin hx hb hts hown hK hP hD hS 0 rfl rfl rfl (Nat.le_of_ble_eq_true rfl) dd_MD_init_24 (fun H locs hP hD hS => ?_)
  have hP : va_P g.1 vwCl [oc_o h 4 [.ref rw, .ref q_1, .ref q_2, .null, .null, .null, .int (nI 0), .int (nI 0), .int (nI 0)], oc_i g q_1 513 (fun _ => 0), oc_i g q_2 513 (fun _ => 0)] H := hP
  have hD : va_D A [oc_o h 4 [.ref rw, .ref q_1, .ref q_2, .null, .null, .null, .int (nI 0), .int (nI 0), .int (nI 0)], oc_i g q_1 513 (fun _ => 0), oc_i g q_2 513 (fun _ => 0)] := hD
  refine lv_aload_n hx hb dd_MD_init_27 rfl (lv_at hl 0 rfl) ?_
  refine lv_sipush (v := nI 513) hx hb dd_MD_init_28 (by decide) ?_
  refine xa_newI (k1 := 3) (k2 := 1539) hx hb (hts _ wa_int) hK hP hD hS hA (by decide) rfl rfl (Nat.le_of_ble_eq_true rfl) (Nat.le_of_ble_eq_true rfl) dd_MD_init_31 (fun q_3 H hP hD hS => ?_)
  have hP : va_P g.1 vwCl [oc_o h 4 [.ref rw, .ref q_1, .ref q_2, .null, .null, .null, .int (nI 0), .int (nI 0), .int (nI 0)], oc_i g q_1 513 (fun _ => 0), oc_i g q_2 513 (fun _ => 0), oc_i g q_3 513 (fun _ => 0)] H := hP
  have hD : va_D A [oc_o h 4 [.ref rw, .ref q_1, .ref q_2, .null, .null, .null, .int (nI 0), .int (nI 0), .int (nI 0)], oc_i g q_1 513 (fun _ => 0), oc_i g q_2 513 (fun _ => 0), oc_i g q_3 513 (fun _ => 0)] := hD
  refine pf_MD_21 hin hx hb hts hown hK hP hD hS 0 rfl rfl rfl (Nat.le_of_ble_eq_true rfl) dd_MD_init_33 (fun H locs hP hD hS => ?_)
  have hP : va_P g.1 vwCl [oc_o h 4 [.ref rw, .ref q_1, .ref q_2, .ref q_3, .null, .null, .int (nI 0), .int (nI 0), .int (nI 0)], oc_i g q_1 513 (fun _ => 0), oc_i g q_2 513 (fun _ => 0), oc_i g q_3 513 (fun _ => 0)] H := hP
  have hD : va_D A [oc_o h 4 [.ref rw, .ref q_1, .ref q_2, .ref q_3, .null, .null, .int (nI 0), .int (nI 0), .int (nI 0)], oc_i g q_1 513 (fun _ => 0), oc_i g q_2 513 (fun _ => 0), oc_i g q_3 513 (fun _ => 0)] := hD
  refine lv_aload_n hx hb dd_MD_init_36 rfl (lv_at hl 0 rfl) ?_
  refine lv_sipush (v := nI 513) hx hb dd_MD_init_37 (by decide) ?_
  refine xa_newI (k1 := 4) (k2 := 2052) hx hb (hts _ wa_int) hK hP hD hS hA (by decide) rfl rfl (Nat.le_of_ble_eq_true rfl) (Nat.le_of_ble_eq_true rfl) dd_MD_init_40 (fun q_4 H hP hD hS => ?_)
  have hP : va_P g.1 vwCl [oc_o h 4 [.ref rw, .ref q_1, .ref q_2, .ref q_3, .null, .null, .int (nI 0), .int (nI 0), .int (nI 0)], oc_i g q_1 513 (fun _ => 0), oc_i g q_2 513 (fun _ => 0), oc_i g q_3 513 (fun _ => 0), oc_i g q_4 513 (fun _ => 0)] H := hP
  have hD : va_D A [oc_o h 4 [.ref rw, .ref q_1, .ref q_2, .ref q_3, .null, .null, .int (nI 0), .int (nI 0), .int (nI 0)], oc_i g q_1 513 (fun _ => 0), oc_i g q_2 513 (fun _ => 0), oc_i g q_3 513 (fun _ => 0), oc_i g q_4 513 (fun _ => 0)] := hD
  refine pf_MD_24 hin hx hb hts hown hK hP hD hS 0 rfl rfl rfl (Nat.le_of_ble_eq_true rfl) dd_MD_init_42 (fun H locs hP hD hS => ?_)
  have hP : va_P g.1 vwCl [oc_o h 4 [.ref rw, .ref q_1, .ref q_2, .ref q_3, .ref q_4, .null, .int (nI 0), .int (nI 0), .int (nI 0)], oc_i g q_1 513 (fun _ => 0), oc_i g q_2 513 (fun _ => 0), oc_i g q_3 513 (fun _ => 0), oc_i g q_4 513 (fun _ => 0)] H := hP
  have hD : va_D A [oc_o h 4 [.ref rw, .ref q_1, .ref q_2, .ref q_3, .ref q_4, .null, .int (nI 0), .int (nI 0), .int (nI 0)], oc_i g q_1 513 (fun _ => 0), oc_i g q_2 513 (fun _ => 0), oc_i g q_3 513 (fun _ => 0), oc_i g q_4 513 (fun _ => 0)] := hD
  refine lv_aload_n hx hb dd_MD_init_45 rfl (lv_at hl 0 rfl) ?_
  refine lv_sipush (v := nI 513) hx hb dd_MD_init_46 (by decide) ?_
  refine xa_newI (k1 := 5) (k2 := 2565) hx hb (hts _ wa_int) hK hP hD hS hA (by decide) rfl rfl (Nat.le_of_ble_eq_true rfl) (Nat.le_of_ble_eq_true rfl) dd_MD_init_49 (fun q_5 H hP hD hS => ?_)
  have hP : va_P g.1 vwCl [oc_o h 4 [.ref rw, .ref q_1, .ref q_2, .ref q_3, .ref q_4, .null, .int (nI 0), .int (nI 0), .int (nI 0)], oc_i g q_1 513 (fun _ => 0), oc_i g q_2 513 (fun _ => 0), oc_i g q_3 513 (fun _ => 0), oc_i g q_4 513 (fun _ => 0), oc_i g q_5 513 (fun _ => 0)] H := hP
  have hD : va_D A [oc_o h 4 [.ref rw, .ref q_1, .ref q_2, .ref q_3, .ref q_4, .null, .int (nI 0), .int (nI 0), .int (nI 0)], oc_i g q_1 513 (fun _ => 0), oc_i g q_2 513 (fun _ => 0), oc_i g q_3 513 (fun _ => 0), oc_i g q_4 513 (fun _ => 0), oc_i g q_5 513 (fun _ => 0)] := hD
  refine pf_MD_27 hin hx hb hts hown hK hP hD hS 0 rfl rfl rfl (Nat.le_of_ble_eq_true rfl) dd_MD_init_51 (fun H locs hP hD hS => ?_)
  have hP : va_P g.1 vwCl [oc_o h 4 [.ref rw, .ref q_1, .ref q_2, .ref q_3, .ref q_4, .ref q_5, .int (nI 0), .int (nI 0), .int (nI 0)], oc_i g q_1 513 (fun _ => 0), oc_i g q_2 513 (fun _ => 0), oc_i g q_3 513 (fun _ => 0), oc_i g q_4 513 (fun _ => 0), oc_i g q_5 513 (fun _ => 0)] H := hP
  have hD : va_D A [oc_o h 4 [.ref rw, .ref q_1, .ref q_2, .ref q_3, .ref q_4, .ref q_5, .int (nI 0), .int (nI 0), .int (nI 0)], oc_i g q_1 513 (fun _ => 0), oc_i g q_2 513 (fun _ => 0), oc_i g q_3 513 (fun _ => 0), oc_i g q_4 513 (fun _ => 0), oc_i g q_5 513 (fun _ => 0)] := hD
  refine lv_aload_n hx hb dd_MD_init_54 rfl (lv_at hl 0 rfl) ?_
  refine lv_iconst (v := nI 0) hx hb dd_MD_init_55 (by decide) ?_
  refine pf_MD_30 hx hb hts hown hK hP hD hS 0 rfl rfl rfl (Nat.le_of_ble_eq_true rfl) dd_MD_init_56 (fun H locs hP hD hS => ?_)
  have hP : va_P g.1 vwCl [oc_o h 4 [.ref rw, .ref q_1, .ref q_2, .ref q_3, .ref q_4, .ref q_5, .int (nI 0), .int (nI 0), .int (nI 0)], oc_i g q_1 513 (fun _ => 0), oc_i g q_2 513 (fun _ => 0), oc_i g q_3 513 (fun _ => 0), oc_i g q_4 513 (fun _ => 0), oc_i g q_5 513 (fun _ => 0)] H := hP
  have hD : va_D A [oc_o h 4 [.ref rw, .ref q_1, .ref q_2, .ref q_3, .ref q_4, .ref q_5, .int (nI 0), .int (nI 0), .int (nI 0)], oc_i g q_1 513 (fun _ => 0), oc_i g q_2 513 (fun _ => 0), oc_i g q_3 513 (fun _ => 0), oc_i g q_4 513 (fun _ => 0), oc_i g q_5 513 (fun _ => 0)] := hD
  refine lv_aload_n hx hb dd_MD_init_59 rfl (lv_at hl 0 rfl) ?_
  refine lv_iconst (v := nI 0) hx hb dd_MD_init_60 (by decide) ?_
  refine pf_MD_34 hx hb hts hown hK hP hD hS 0 rfl rfl rfl (Nat.le_of_ble_eq_true rfl) dd_MD_init_61 (fun H locs hP hD hS => ?_)
  have hP : va_P g.1 vwCl [oc_o h 4 [.ref rw, .ref q_1, .ref q_2, .ref q_3, .ref q_4, .ref q_5, .int (nI 0), .int (nI 0), .int (nI 0)], oc_i g q_1 513 (fun _ => 0), oc_i g q_2 513 (fun _ => 0), oc_i g q_3 513 (fun _ => 0), oc_i g q_4 513 (fun _ => 0), oc_i g q_5 513 (fun _ => 0)] H := hP
  have hD : va_D A [oc_o h 4 [.ref rw, .ref q_1, .ref q_2, .ref q_3, .ref q_4, .ref q_5, .int (nI 0), .int (nI 0), .int (nI 0)], oc_i g q_1 513 (fun _ => 0), oc_i g q_2 513 (fun _ => 0), oc_i g q_3 513 (fun _ => 0), oc_i g q_4 513 (fun _ => 0), oc_i g q_5 513 (fun _ => 0)] := hD
  refine lv_aload_n hx hb dd_MD_init_64 rfl (lv_at hl 0 rfl) ?_
  refine lv_iconst (v := nI 0) hx hb dd_MD_init_65 (by decide) ?_
  refine pf_MD_37 hx hb hts hown hK hP hD hS 0 rfl rfl rfl (Nat.le_of_ble_eq_true rfl) dd_MD_init_66 (fun H locs hP hD hS => ?_)
  have hP : va_P g.1 vwCl [oc_o h 4 [.ref rw, .ref q_1, .ref q_2, .ref q_3, .ref q_4, .ref q_5, .int (nI 0), .int (nI 0), .int (nI 0)], oc_i g q_1 513 (fun _ => 0), oc_i g q_2 513 (fun _ => 0), oc_i g q_3 513 (fun _ => 0), oc_i g q_4 513 (fun _ => 0), oc_i g q_5 513 (fun _ => 0)] H := hP
  have hD : va_D A [oc_o h 4 [.ref rw, .ref q_1, .ref q_2, .ref q_3, .ref q_4, .ref q_5, .int (nI 0), .int (nI 0), .int (nI 0)], oc_i g q_1 513 (fun _ => 0), oc_i g q_2 513 (fun _ => 0), oc_i g q_3 513 (fun _ => 0), oc_i g q_4 513 (fun _ => 0), oc_i g q_5 513 (fun _ => 0)] := hD
  exact xr_v hx hb hr hlk hQ hP hD hS () trivial [] (by decide) rfl (Nat.le_of_ble_eq_true rfl) (Nat.le_of_ble_eq_true rfl) dd_MD_init_69

set_option maxHeartbeats 4000000 in
set_option maxRecDepth 100000 in
theorem ct_rd_init (l : Launch) (g : xg_G) (h : Nat) (rw : Nat) (o : Nat) : kc_V l yy_RD_init cd_RD_init 3 { frames := 2, cells := 2, slots := 47, locals := 38 } g [.ref h, .ref rw, .ref o] [oc_o h 5 [.null, .null, .null, .int (nI 0), .int (nI 0), .null, .null, .int (nI 0)]] (S := Unit) (fun _ => True) (fun _ => []) := by
  refine kc_Vof (by decide) (Nat.le_of_ble_eq_true rfl) ?_
  intro p e s m args below meth c A ls Q H locs hQ hB hP hS
  obtain ⟨hx, hb, hr, hlk, hin, hml, hown, hts, hA, hK, hD, hE, hl⟩ := hB
  have hF : xf_F g p m c cd_RD_init 3 s args "StackedRows$Reader" A := ⟨⟨hx, hb, hml, hown, hts⟩, hE, hK, hA⟩
  have hl : lv_has ls 3 [(0, .ref h), (1, .ref rw), (2, .ref o)] := hl
  have hown : s.vm.findClass "StackedRows$Reader" = some m.cls := hown
  refine lv_aload_n hx hb dd_RD_init_0 rfl (lv_at hl 0 rfl) ?_
  refine oi_RD_3 hx hb hts hown hml hl.1 (Nat.le_of_ble_eq_true rfl) (Nat.le_of_ble_eq_true rfl) dd_RD_init_1 ?_
  refine lv_aload_n hx hb dd_RD_init_4 rfl (lv_at hl 0 rfl) ?_
  refine lv_aload_n hx hb dd_RD_init_5 rfl (lv_at hl 1 rfl) ?_
  refine pf_RD_9 hin hx hb hts hown hK hP hD hS 0 rfl rfl rfl (Nat.le_of_ble_eq_true rfl) dd_RD_init_6 (fun H locs hP hD hS => ?_)
  have hP : va_P g.1 vwCl [oc_o h 5 [.ref rw, .null, .null, .int (nI 0), .int (nI 0), .null, .null, .int (nI 0)]] H := hP
  have hD : va_D A [oc_o h 5 [.ref rw, .null, .null, .int (nI 0), .int (nI 0), .null, .null, .int (nI 0)]] := hD
  refine lv_aload_n hx hb dd_RD_init_9 rfl (lv_at hl 0 rfl) ?_
  refine lv_aload_n hx hb dd_RD_init_10 rfl (lv_at hl 2 rfl) ?_
  refine pf_RD_15 hin hx hb hts hown hK hP hD hS 0 rfl rfl rfl (Nat.le_of_ble_eq_true rfl) dd_RD_init_11 (fun H locs hP hD hS => ?_)
  have hP : va_P g.1 vwCl [oc_o h 5 [.ref rw, .ref o, .null, .int (nI 0), .int (nI 0), .null, .null, .int (nI 0)]] H := hP
  have hD : va_D A [oc_o h 5 [.ref rw, .ref o, .null, .int (nI 0), .int (nI 0), .null, .null, .int (nI 0)]] := hD
  refine lv_aload_n hx hb dd_RD_init_14 rfl (lv_at hl 0 rfl) ?_
  refine nw_RD_19 (k1 := 1) (k2 := 2) hx hb hts hown hK hP hD hS hA rfl rfl (Nat.le_of_ble_eq_true rfl) (Nat.le_of_ble_eq_true rfl) dd_RD_init_15 (fun q_1 H hP hD hS => ?_)
  have hP : va_P g.1 vwCl [oc_o h 5 [.ref rw, .ref o, .null, .int (nI 0), .int (nI 0), .null, .null, .int (nI 0)], oc_o q_1 1 [.int (nI 0), .null]] H := hP
  have hD : va_D A [oc_o h 5 [.ref rw, .ref o, .null, .int (nI 0), .int (nI 0), .null, .null, .int (nI 0)], oc_o q_1 1 [.int (nI 0), .null]] := hD
  refine lv_dup hx hb dd_RD_init_18 rfl ?_
  refine lv_bipush (v := nI 10) hx hb dd_RD_init_19 (by decide) ?_
  refine lv_bipush (v := nI 45) hx hb dd_RD_init_21 (by decide) ?_
  refine xc_Iv (wr := [oc_o h 5 [.ref rw, .ref o, .null, .int (nI 0), .int (nI 0), .null, .null, .int (nI 0)]]) (k1 := 2) (k2 := 47) (As := [.int (nI 10), .int (nI 45)]) (rest := [.ref q_1, .ref h]) (k := 2) hF hP hD hS (ct_bn_init45 l g q_1) wc_BN_init wn_BN ml_RD_21 wi_BN_init rfl (by decide) [1] [0] ⟨rfl, rfl, by decide, by decide, by decide⟩ ⟨⟨Nat.le_of_ble_eq_true rfl, Nat.le_of_ble_eq_true rfl⟩, rfl, rfl, Nat.le_of_ble_eq_true rfl, Nat.le_of_ble_eq_true rfl⟩ rfl hl.1 rfl (Nat.le_of_ble_eq_true rfl) dd_RD_init_23 (fun u H locs hp hP hD hS => ?_)
  have hP : va_P g.1 vwCl [oc_o h 5 [.ref rw, .ref o, .null, .int (nI 0), .int (nI 0), .null, .null, .int (nI 0)]] H := hP
  have hD : va_D A [oc_o h 5 [.ref rw, .ref o, .null, .int (nI 0), .int (nI 0), .null, .null, .int (nI 0)]] := hD
  refine pf_RD_24 hin hx hb hts hown hK hP hD hS 0 rfl rfl rfl (Nat.le_of_ble_eq_true rfl) dd_RD_init_26 (fun H locs hP hD hS => ?_)
  have hP : va_P g.1 vwCl [oc_o h 5 [.ref rw, .ref o, .ref q_1, .int (nI 0), .int (nI 0), .null, .null, .int (nI 0)]] H := hP
  have hD : va_D A [oc_o h 5 [.ref rw, .ref o, .ref q_1, .int (nI 0), .int (nI 0), .null, .null, .int (nI 0)]] := hD
  refine lv_aload_n hx hb dd_RD_init_29 rfl (lv_at hl 0 rfl) ?_
  refine lv_iconst (v := nI 0) hx hb dd_RD_init_30 (by decide) ?_
  refine pf_RD_28 hx hb hts hown hK hP hD hS 0 rfl rfl rfl (Nat.le_of_ble_eq_true rfl) dd_RD_init_31 (fun H locs hP hD hS => ?_)
  have hP : va_P g.1 vwCl [oc_o h 5 [.ref rw, .ref o, .ref q_1, .int (nI 0), .int (nI 0), .null, .null, .int (nI 0)]] H := hP
  have hD : va_D A [oc_o h 5 [.ref rw, .ref o, .ref q_1, .int (nI 0), .int (nI 0), .null, .null, .int (nI 0)]] := hD
  refine lv_aload_n hx hb dd_RD_init_34 rfl (lv_at hl 0 rfl) ?_
  refine lv_sipush (v := nI 900) hx hb dd_RD_init_35 (by decide) ?_
  refine pf_RD_32 hx hb hts hown hK hP hD hS 0 rfl rfl rfl (Nat.le_of_ble_eq_true rfl) dd_RD_init_38 (fun H locs hP hD hS => ?_)
  have hP : va_P g.1 vwCl [oc_o h 5 [.ref rw, .ref o, .ref q_1, .int (nI 0), .int (nI 900), .null, .null, .int (nI 0)]] H := hP
  have hD : va_D A [oc_o h 5 [.ref rw, .ref o, .ref q_1, .int (nI 0), .int (nI 900), .null, .null, .int (nI 0)]] := hD
  refine lv_aload_n hx hb dd_RD_init_41 rfl (lv_at hl 0 rfl) ?_
  refine gs_RD_35 hx hb hts hown hE hS dd_RD_init_42 (fun v_3 hv_3 => ?_)
  refine pf_RD_41 hx hb hts hown hK hP hD hS 0 rfl (xs_nar hv_3) (xs_fit hv_3) (Nat.le_of_ble_eq_true rfl) dd_RD_init_45 (fun H locs hP hD hS => ?_)
  have hP : va_P g.1 vwCl [oc_o h 5 [.ref rw, .ref o, .ref q_1, .int (nI 0), .int (nI 900), v_3, .null, .int (nI 0)]] H := hP
  have hD : va_D A [oc_o h 5 [.ref rw, .ref o, .ref q_1, .int (nI 0), .int (nI 900), v_3, .null, .int (nI 0)]] := hD
  refine lv_aload_n hx hb dd_RD_init_48 rfl (lv_at hl 0 rfl) ?_
  refine lv_null hx hb dd_RD_init_49 ?_
  refine pf_RD_44 hx hb hts hown hK hP hD hS 0 rfl rfl rfl (Nat.le_of_ble_eq_true rfl) dd_RD_init_50 (fun H locs hP hD hS => ?_)
  have hP : va_P g.1 vwCl [oc_o h 5 [.ref rw, .ref o, .ref q_1, .int (nI 0), .int (nI 900), v_3, .null, .int (nI 0)]] H := hP
  have hD : va_D A [oc_o h 5 [.ref rw, .ref o, .ref q_1, .int (nI 0), .int (nI 900), v_3, .null, .int (nI 0)]] := hD
  refine lv_aload_n hx hb dd_RD_init_53 rfl (lv_at hl 0 rfl) ?_
  refine lv_iconst (v := nI 0) hx hb dd_RD_init_54 (by decide) ?_
  refine pf_RD_47 hx hb hts hown hK hP hD hS 0 rfl rfl rfl (Nat.le_of_ble_eq_true rfl) dd_RD_init_55 (fun H locs hP hD hS => ?_)
  have hP : va_P g.1 vwCl [oc_o h 5 [.ref rw, .ref o, .ref q_1, .int (nI 0), .int (nI 900), v_3, .null, .int (nI 0)]] H := hP
  have hD : va_D A [oc_o h 5 [.ref rw, .ref o, .ref q_1, .int (nI 0), .int (nI 900), v_3, .null, .int (nI 0)]] := hD
  exact xr_v hx hb hr hlk hQ hP hD hS () trivial [] (by decide) rfl (Nat.le_of_ble_eq_true rfl) (Nat.le_of_ble_eq_true rfl) dd_RD_init_58

set_option maxHeartbeats 4000000 in
set_option maxRecDepth 100000 in
theorem ct_sv_init (l : Launch) (g : xg_G) (h : Nat) (rw : Nat) : kc_V l yy_SV_init cd_SV_init 2 { frames := 3, cells := 13, slots := 4849, locals := 60 } g [.ref h, .ref rw] [oc_o h 6 [.null, .null, .null, .null, .null, .null, .int (nI 0), .int (nI 0), .int (nI 0)]] (S := Unit) (fun _ => True) (fun _ => []) := by
  refine kc_Vof (by decide) (Nat.le_of_ble_eq_true rfl) ?_
  intro p e s m args below meth c A ls Q H locs hQ hB hP hS
  obtain ⟨hx, hb, hr, hlk, hin, hml, hown, hts, hA, hK, hD, hE, hl⟩ := hB
  have hF : xf_F g p m c cd_SV_init 2 s args "StackedRows$Solver" A := ⟨⟨hx, hb, hml, hown, hts⟩, hE, hK, hA⟩
  have hl : lv_has ls 2 [(0, .ref h), (1, .ref rw)] := hl
  have hown : s.vm.findClass "StackedRows$Solver" = some m.cls := hown
  refine lv_aload_n hx hb dd_SV_init_0 rfl (lv_at hl 0 rfl) ?_
  refine oi_SV_3 hx hb hts hown hml hl.1 (Nat.le_of_ble_eq_true rfl) (Nat.le_of_ble_eq_true rfl) dd_SV_init_1 ?_
  refine lv_aload_n hx hb dd_SV_init_4 rfl (lv_at hl 0 rfl) ?_
  refine lv_aload_n hx hb dd_SV_init_5 rfl (lv_at hl 1 rfl) ?_
  refine pf_SV_9 hin hx hb hts hown hK hP hD hS 0 rfl rfl rfl (Nat.le_of_ble_eq_true rfl) dd_SV_init_6 (fun H locs hP hD hS => ?_)
  have hP : va_P g.1 vwCl [oc_o h 6 [.null, .ref rw, .null, .null, .null, .null, .int (nI 0), .int (nI 0), .int (nI 0)]] H := hP
  have hD : va_D A [oc_o h 6 [.null, .ref rw, .null, .null, .null, .null, .int (nI 0), .int (nI 0), .int (nI 0)]] := hD
  refine lv_aload_n hx hb dd_SV_init_9 rfl (lv_at hl 0 rfl) ?_
  refine lv_bipush (v := nI 90) hx hb dd_SV_init_10 (by decide) ?_
  refine xa_newI (k1 := 1) (k2 := 90) hx hb (hts _ wa_int) hK hP hD hS hA (by decide) rfl rfl (Nat.le_of_ble_eq_true rfl) (Nat.le_of_ble_eq_true rfl) dd_SV_init_12 (fun q_1 H hP hD hS => ?_)
  have hP : va_P g.1 vwCl [oc_o h 6 [.null, .ref rw, .null, .null, .null, .null, .int (nI 0), .int (nI 0), .int (nI 0)], oc_i g q_1 90 (fun _ => 0)] H := hP
  have hD : va_D A [oc_o h 6 [.null, .ref rw, .null, .null, .null, .null, .int (nI 0), .int (nI 0), .int (nI 0)], oc_i g q_1 90 (fun _ => 0)] := hD
  refine pf_SV_15 hin hx hb hts hown hK hP hD hS 0 rfl rfl rfl (Nat.le_of_ble_eq_true rfl) dd_SV_init_14 (fun H locs hP hD hS => ?_)
  have hP : va_P g.1 vwCl [oc_o h 6 [.ref q_1, .ref rw, .null, .null, .null, .null, .int (nI 0), .int (nI 0), .int (nI 0)], oc_i g q_1 90 (fun _ => 0)] H := hP
  have hD : va_D A [oc_o h 6 [.ref q_1, .ref rw, .null, .null, .null, .null, .int (nI 0), .int (nI 0), .int (nI 0)], oc_i g q_1 90 (fun _ => 0)] := hD
  refine lv_aload_n hx hb dd_SV_init_17 rfl (lv_at hl 0 rfl) ?_
  refine lv_sipush (v := nI 928) hx hb dd_SV_init_18 (by decide) ?_
  refine xa_newI (k1 := 2) (k2 := 1018) hx hb (hts _ wa_int) hK hP hD hS hA (by decide) rfl rfl (Nat.le_of_ble_eq_true rfl) (Nat.le_of_ble_eq_true rfl) dd_SV_init_21 (fun q_2 H hP hD hS => ?_)
  have hP : va_P g.1 vwCl [oc_o h 6 [.ref q_1, .ref rw, .null, .null, .null, .null, .int (nI 0), .int (nI 0), .int (nI 0)], oc_i g q_1 90 (fun _ => 0), oc_i g q_2 928 (fun _ => 0)] H := hP
  have hD : va_D A [oc_o h 6 [.ref q_1, .ref rw, .null, .null, .null, .null, .int (nI 0), .int (nI 0), .int (nI 0)], oc_i g q_1 90 (fun _ => 0), oc_i g q_2 928 (fun _ => 0)] := hD
  refine pf_SV_18 hin hx hb hts hown hK hP hD hS 0 rfl rfl rfl (Nat.le_of_ble_eq_true rfl) dd_SV_init_23 (fun H locs hP hD hS => ?_)
  have hP : va_P g.1 vwCl [oc_o h 6 [.ref q_1, .ref rw, .ref q_2, .null, .null, .null, .int (nI 0), .int (nI 0), .int (nI 0)], oc_i g q_1 90 (fun _ => 0), oc_i g q_2 928 (fun _ => 0)] H := hP
  have hD : va_D A [oc_o h 6 [.ref q_1, .ref rw, .ref q_2, .null, .null, .null, .int (nI 0), .int (nI 0), .int (nI 0)], oc_i g q_1 90 (fun _ => 0), oc_i g q_2 928 (fun _ => 0)] := hD
  refine lv_aload_n hx hb dd_SV_init_26 rfl (lv_at hl 0 rfl) ?_
  refine nw_SV_21 (k1 := 3) (k2 := 1027) hx hb hts hown hK hP hD hS hA rfl rfl (Nat.le_of_ble_eq_true rfl) (Nat.le_of_ble_eq_true rfl) dd_SV_init_27 (fun q_3 H hP hD hS => ?_)
  have hP : va_P g.1 vwCl [oc_o h 6 [.ref q_1, .ref rw, .ref q_2, .null, .null, .null, .int (nI 0), .int (nI 0), .int (nI 0)], oc_i g q_1 90 (fun _ => 0), oc_i g q_2 928 (fun _ => 0), oc_o q_3 4 [.null, .null, .null, .null, .null, .null, .int (nI 0), .int (nI 0), .int (nI 0)]] H := hP
  have hD : va_D A [oc_o h 6 [.ref q_1, .ref rw, .ref q_2, .null, .null, .null, .int (nI 0), .int (nI 0), .int (nI 0)], oc_i g q_1 90 (fun _ => 0), oc_i g q_2 928 (fun _ => 0), oc_o q_3 4 [.null, .null, .null, .null, .null, .null, .int (nI 0), .int (nI 0), .int (nI 0)]] := hD
  refine lv_dup hx hb dd_SV_init_30 rfl ?_
  refine lv_aload_n hx hb dd_SV_init_31 rfl (lv_at hl 0 rfl) ?_
  refine gf_SV_18 hx hb hts hown hK hP 0 rfl rfl dd_SV_init_32 ?_
  refine xc_Iv (wr := [oc_o h 6 [.ref q_1, .ref rw, .ref q_2, .null, .null, .null, .int (nI 0), .int (nI 0), .int (nI 0)], oc_i g q_1 90 (fun _ => 0), oc_i g q_2 928 (fun _ => 0)]) (k1 := 8) (k2 := 3592) (As := [.ref q_2]) (rest := [.ref q_3, .ref h]) (k := 1) hF hP hD hS (ct_md_init l g q_3 q_2) wc_MD_init wn_MD ml_SV_23 wi_MD_init rfl (by decide) [3] [0, 1, 2] ⟨rfl, rfl, by decide, by decide, by decide⟩ ⟨⟨Nat.le_of_ble_eq_true rfl, Nat.le_of_ble_eq_true rfl⟩, rfl, rfl, Nat.le_of_ble_eq_true rfl, Nat.le_of_ble_eq_true rfl⟩ rfl hl.1 rfl (Nat.le_of_ble_eq_true rfl) dd_SV_init_35 (fun u H locs hp hP hD hS => ?_)
  have hP : va_P g.1 vwCl [oc_o h 6 [.ref q_1, .ref rw, .ref q_2, .null, .null, .null, .int (nI 0), .int (nI 0), .int (nI 0)], oc_i g q_1 90 (fun _ => 0), oc_i g q_2 928 (fun _ => 0)] H := hP
  have hD : va_D A [oc_o h 6 [.ref q_1, .ref rw, .ref q_2, .null, .null, .null, .int (nI 0), .int (nI 0), .int (nI 0)], oc_i g q_1 90 (fun _ => 0), oc_i g q_2 928 (fun _ => 0)] := hD
  refine pf_SV_26 hin hx hb hts hown hK hP hD hS 0 rfl rfl rfl (Nat.le_of_ble_eq_true rfl) dd_SV_init_38 (fun H locs hP hD hS => ?_)
  have hP : va_P g.1 vwCl [oc_o h 6 [.ref q_1, .ref rw, .ref q_2, .ref q_3, .null, .null, .int (nI 0), .int (nI 0), .int (nI 0)], oc_i g q_1 90 (fun _ => 0), oc_i g q_2 928 (fun _ => 0)] H := hP
  have hD : va_D A [oc_o h 6 [.ref q_1, .ref rw, .ref q_2, .ref q_3, .null, .null, .int (nI 0), .int (nI 0), .int (nI 0)], oc_i g q_1 90 (fun _ => 0), oc_i g q_2 928 (fun _ => 0)] := hD
  refine lv_aload_n hx hb dd_SV_init_41 rfl (lv_at hl 0 rfl) ?_
  refine nw_SV_30 (k1 := 9) (k2 := 3594) hx hb hts hown hK hP hD hS hA rfl rfl (Nat.le_of_ble_eq_true rfl) (Nat.le_of_ble_eq_true rfl) dd_SV_init_42 (fun q_5 H hP hD hS => ?_)
  have hP : va_P g.1 vwCl [oc_o h 6 [.ref q_1, .ref rw, .ref q_2, .ref q_3, .null, .null, .int (nI 0), .int (nI 0), .int (nI 0)], oc_i g q_1 90 (fun _ => 0), oc_i g q_2 928 (fun _ => 0), oc_o q_5 8 [.null, .int (nI 0)]] H := hP
  have hD : va_D A [oc_o h 6 [.ref q_1, .ref rw, .ref q_2, .ref q_3, .null, .null, .int (nI 0), .int (nI 0), .int (nI 0)], oc_i g q_1 90 (fun _ => 0), oc_i g q_2 928 (fun _ => 0), oc_o q_5 8 [.null, .int (nI 0)]] := hD
  refine lv_dup hx hb dd_SV_init_45 rfl ?_
  refine xc_Iv (wr := [oc_o h 6 [.ref q_1, .ref rw, .ref q_2, .ref q_3, .null, .null, .int (nI 0), .int (nI 0), .int (nI 0)], oc_i g q_1 90 (fun _ => 0), oc_i g q_2 928 (fun _ => 0)]) (k1 := 10) (k2 := 4794) (As := []) (rest := [.ref q_5, .ref h]) (k := 0) hF hP hD hS (ct_tape_init l g q_5) wc_TP_init wn_TP ml_SV_32 wi_TP_init rfl (by decide) [3] [0, 1, 2] ⟨rfl, rfl, by decide, by decide, by decide⟩ ⟨⟨Nat.le_of_ble_eq_true rfl, Nat.le_of_ble_eq_true rfl⟩, rfl, rfl, Nat.le_of_ble_eq_true rfl, Nat.le_of_ble_eq_true rfl⟩ rfl hl.1 rfl (Nat.le_of_ble_eq_true rfl) dd_SV_init_46 (fun q_6 H locs hp hP hD hS => ?_)
  have hP : va_P g.1 vwCl [oc_o h 6 [.ref q_1, .ref rw, .ref q_2, .ref q_3, .null, .null, .int (nI 0), .int (nI 0), .int (nI 0)], oc_i g q_1 90 (fun _ => 0), oc_i g q_2 928 (fun _ => 0), oc_o q_5 8 [.ref q_6, .int (nI 0)], oc_i g q_6 1200 (fun _ => 0)] H := hP
  have hD : va_D A [oc_o h 6 [.ref q_1, .ref rw, .ref q_2, .ref q_3, .null, .null, .int (nI 0), .int (nI 0), .int (nI 0)], oc_i g q_1 90 (fun _ => 0), oc_i g q_2 928 (fun _ => 0), oc_o q_5 8 [.ref q_6, .int (nI 0)], oc_i g q_6 1200 (fun _ => 0)] := hD
  refine pf_SV_33 hin hx hb hts hown hK hP hD hS 0 rfl rfl rfl (Nat.le_of_ble_eq_true rfl) dd_SV_init_49 (fun H locs hP hD hS => ?_)
  have hP : va_P g.1 vwCl [oc_o h 6 [.ref q_1, .ref rw, .ref q_2, .ref q_3, .ref q_5, .null, .int (nI 0), .int (nI 0), .int (nI 0)], oc_i g q_1 90 (fun _ => 0), oc_i g q_2 928 (fun _ => 0), oc_o q_5 8 [.ref q_6, .int (nI 0)], oc_i g q_6 1200 (fun _ => 0)] H := hP
  have hD : va_D A [oc_o h 6 [.ref q_1, .ref rw, .ref q_2, .ref q_3, .ref q_5, .null, .int (nI 0), .int (nI 0), .int (nI 0)], oc_i g q_1 90 (fun _ => 0), oc_i g q_2 928 (fun _ => 0), oc_o q_5 8 [.ref q_6, .int (nI 0)], oc_i g q_6 1200 (fun _ => 0)] := hD
  refine lv_aload_n hx hb dd_SV_init_52 rfl (lv_at hl 0 rfl) ?_
  refine nw_SV_37 (k1 := 11) (k2 := 4802) hx hb hts hown hK hP hD hS hA rfl rfl (Nat.le_of_ble_eq_true rfl) (Nat.le_of_ble_eq_true rfl) dd_SV_init_53 (fun q_8 H hP hD hS => ?_)
  have hP : va_P g.1 vwCl [oc_o h 6 [.ref q_1, .ref rw, .ref q_2, .ref q_3, .ref q_5, .null, .int (nI 0), .int (nI 0), .int (nI 0)], oc_i g q_1 90 (fun _ => 0), oc_i g q_2 928 (fun _ => 0), oc_o q_5 8 [.ref q_6, .int (nI 0)], oc_i g q_6 1200 (fun _ => 0), oc_o q_8 5 [.null, .null, .null, .int (nI 0), .int (nI 0), .null, .null, .int (nI 0)]] H := hP
  have hD : va_D A [oc_o h 6 [.ref q_1, .ref rw, .ref q_2, .ref q_3, .ref q_5, .null, .int (nI 0), .int (nI 0), .int (nI 0)], oc_i g q_1 90 (fun _ => 0), oc_i g q_2 928 (fun _ => 0), oc_o q_5 8 [.ref q_6, .int (nI 0)], oc_i g q_6 1200 (fun _ => 0), oc_o q_8 5 [.null, .null, .null, .int (nI 0), .int (nI 0), .null, .null, .int (nI 0)]] := hD
  refine lv_dup hx hb dd_SV_init_56 rfl ?_
  refine lv_aload_n hx hb dd_SV_init_57 rfl (lv_at hl 0 rfl) ?_
  refine gf_SV_18 hx hb hts hown hK hP 0 rfl rfl dd_SV_init_58 ?_
  refine lv_aload_n hx hb dd_SV_init_61 rfl (lv_at hl 0 rfl) ?_
  refine gf_SV_33 hx hb hts hown hK hP 0 rfl rfl dd_SV_init_62 ?_
  refine xc_Iv (wr := [oc_o h 6 [.ref q_1, .ref rw, .ref q_2, .ref q_3, .ref q_5, .null, .int (nI 0), .int (nI 0), .int (nI 0)], oc_i g q_1 90 (fun _ => 0), oc_i g q_2 928 (fun _ => 0), oc_o q_5 8 [.ref q_6, .int (nI 0)], oc_i g q_6 1200 (fun _ => 0)]) (k1 := 13) (k2 := 4849) (As := [.ref q_2, .ref q_5]) (rest := [.ref q_8, .ref h]) (k := 2) hF hP hD hS (ct_rd_init l g q_8 q_2 q_5) wc_RD_init wn_RD ml_SV_39 wi_RD_init rfl (by decide) [5] [0, 1, 2, 3, 4] ⟨rfl, rfl, by decide, by decide, by decide⟩ ⟨⟨Nat.le_of_ble_eq_true rfl, Nat.le_of_ble_eq_true rfl⟩, rfl, rfl, Nat.le_of_ble_eq_true rfl, Nat.le_of_ble_eq_true rfl⟩ rfl hl.1 rfl (Nat.le_of_ble_eq_true rfl) dd_SV_init_65 (fun u H locs hp hP hD hS => ?_)
  have hP : va_P g.1 vwCl [oc_o h 6 [.ref q_1, .ref rw, .ref q_2, .ref q_3, .ref q_5, .null, .int (nI 0), .int (nI 0), .int (nI 0)], oc_i g q_1 90 (fun _ => 0), oc_i g q_2 928 (fun _ => 0), oc_o q_5 8 [.ref q_6, .int (nI 0)], oc_i g q_6 1200 (fun _ => 0)] H := hP
  have hD : va_D A [oc_o h 6 [.ref q_1, .ref rw, .ref q_2, .ref q_3, .ref q_5, .null, .int (nI 0), .int (nI 0), .int (nI 0)], oc_i g q_1 90 (fun _ => 0), oc_i g q_2 928 (fun _ => 0), oc_o q_5 8 [.ref q_6, .int (nI 0)], oc_i g q_6 1200 (fun _ => 0)] := hD
  refine pf_SV_42 hin hx hb hts hown hK hP hD hS 0 rfl rfl rfl (Nat.le_of_ble_eq_true rfl) dd_SV_init_68 (fun H locs hP hD hS => ?_)
  have hP : va_P g.1 vwCl [oc_o h 6 [.ref q_1, .ref rw, .ref q_2, .ref q_3, .ref q_5, .ref q_8, .int (nI 0), .int (nI 0), .int (nI 0)], oc_i g q_1 90 (fun _ => 0), oc_i g q_2 928 (fun _ => 0), oc_o q_5 8 [.ref q_6, .int (nI 0)], oc_i g q_6 1200 (fun _ => 0)] H := hP
  have hD : va_D A [oc_o h 6 [.ref q_1, .ref rw, .ref q_2, .ref q_3, .ref q_5, .ref q_8, .int (nI 0), .int (nI 0), .int (nI 0)], oc_i g q_1 90 (fun _ => 0), oc_i g q_2 928 (fun _ => 0), oc_o q_5 8 [.ref q_6, .int (nI 0)], oc_i g q_6 1200 (fun _ => 0)] := hD
  refine lv_aload_n hx hb dd_SV_init_71 rfl (lv_at hl 0 rfl) ?_
  refine lv_iconst (v := nI 0) hx hb dd_SV_init_72 (by decide) ?_
  refine pf_SV_46 hx hb hts hown hK hP hD hS 0 rfl rfl rfl (Nat.le_of_ble_eq_true rfl) dd_SV_init_73 (fun H locs hP hD hS => ?_)
  have hP : va_P g.1 vwCl [oc_o h 6 [.ref q_1, .ref rw, .ref q_2, .ref q_3, .ref q_5, .ref q_8, .int (nI 0), .int (nI 0), .int (nI 0)], oc_i g q_1 90 (fun _ => 0), oc_i g q_2 928 (fun _ => 0), oc_o q_5 8 [.ref q_6, .int (nI 0)], oc_i g q_6 1200 (fun _ => 0)] H := hP
  have hD : va_D A [oc_o h 6 [.ref q_1, .ref rw, .ref q_2, .ref q_3, .ref q_5, .ref q_8, .int (nI 0), .int (nI 0), .int (nI 0)], oc_i g q_1 90 (fun _ => 0), oc_i g q_2 928 (fun _ => 0), oc_o q_5 8 [.ref q_6, .int (nI 0)], oc_i g q_6 1200 (fun _ => 0)] := hD
  refine lv_aload_n hx hb dd_SV_init_76 rfl (lv_at hl 0 rfl) ?_
  refine lv_iconst (v := nI 0) hx hb dd_SV_init_77 (by decide) ?_
  refine pf_SV_50 hx hb hts hown hK hP hD hS 0 rfl rfl rfl (Nat.le_of_ble_eq_true rfl) dd_SV_init_78 (fun H locs hP hD hS => ?_)
  have hP : va_P g.1 vwCl [oc_o h 6 [.ref q_1, .ref rw, .ref q_2, .ref q_3, .ref q_5, .ref q_8, .int (nI 0), .int (nI 0), .int (nI 0)], oc_i g q_1 90 (fun _ => 0), oc_i g q_2 928 (fun _ => 0), oc_o q_5 8 [.ref q_6, .int (nI 0)], oc_i g q_6 1200 (fun _ => 0)] H := hP
  have hD : va_D A [oc_o h 6 [.ref q_1, .ref rw, .ref q_2, .ref q_3, .ref q_5, .ref q_8, .int (nI 0), .int (nI 0), .int (nI 0)], oc_i g q_1 90 (fun _ => 0), oc_i g q_2 928 (fun _ => 0), oc_o q_5 8 [.ref q_6, .int (nI 0)], oc_i g q_6 1200 (fun _ => 0)] := hD
  refine lv_aload_n hx hb dd_SV_init_81 rfl (lv_at hl 0 rfl) ?_
  refine lv_iconst (v := nI 0) hx hb dd_SV_init_82 (by decide) ?_
  refine pf_SV_53 hx hb hts hown hK hP hD hS 0 rfl rfl rfl (Nat.le_of_ble_eq_true rfl) dd_SV_init_83 (fun H locs hP hD hS => ?_)
  have hP : va_P g.1 vwCl [oc_o h 6 [.ref q_1, .ref rw, .ref q_2, .ref q_3, .ref q_5, .ref q_8, .int (nI 0), .int (nI 0), .int (nI 0)], oc_i g q_1 90 (fun _ => 0), oc_i g q_2 928 (fun _ => 0), oc_o q_5 8 [.ref q_6, .int (nI 0)], oc_i g q_6 1200 (fun _ => 0)] H := hP
  have hD : va_D A [oc_o h 6 [.ref q_1, .ref rw, .ref q_2, .ref q_3, .ref q_5, .ref q_8, .int (nI 0), .int (nI 0), .int (nI 0)], oc_i g q_1 90 (fun _ => 0), oc_i g q_2 928 (fun _ => 0), oc_o q_5 8 [.ref q_6, .int (nI 0)], oc_i g q_6 1200 (fun _ => 0)] := hD
  exact xr_v hx hb hr hlk hQ hP hD hS () trivial [] (by decide) rfl (Nat.le_of_ble_eq_true rfl) (Nat.le_of_ble_eq_true rfl) dd_SV_init_86
end
section
set_option maxHeartbeats 4000000 in
set_option maxRecDepth 100000 in
theorem ct_sy_init (l : Launch) (g : xg_G) (h : Nat) : kc_V l yy_SY_init cd_SY_init 1 { frames := 1, cells := 1, slots := 1108, locals := 12 } g [.ref h] [oc_o h 7 [.null, .int (nI 0), .int (nI 0)]] (S := Nat) (fun _ => True) (fun u0 => [oc_o h 7 [.ref u0, .int (nI 0), .int (nI 0)], oc_i g u0 1108 (fun _ => 0)]) := by
  refine kc_Vof (by decide) (Nat.le_of_ble_eq_true rfl) ?_
  intro p e s m args below meth c A ls Q H locs hQ hB hP hS
  obtain ⟨hx, hb, hr, hlk, hin, hml, hown, hts, hA, hK, hD, hE, hl⟩ := hB
  have hF : xf_F g p m c cd_SY_init 1 s args "StackedRows$Symbol" A := ⟨⟨hx, hb, hml, hown, hts⟩, hE, hK, hA⟩
  have hl : lv_has ls 1 [(0, .ref h)] := hl
  have hown : s.vm.findClass "StackedRows$Symbol" = some m.cls := hown
  refine lv_aload_n hx hb dd_SY_init_0 rfl (lv_at hl 0 rfl) ?_
  refine oi_SY_3 hx hb hts hown hml hl.1 (Nat.le_of_ble_eq_true rfl) (Nat.le_of_ble_eq_true rfl) dd_SY_init_1 ?_
  refine lv_aload_n hx hb dd_SY_init_4 rfl (lv_at hl 0 rfl) ?_
  refine lv_sipush (v := nI 1108) hx hb dd_SY_init_5 (by decide) ?_
  refine xa_newI (k1 := 1) (k2 := 1108) hx hb (hts _ wa_int) hK hP hD hS hA (by decide) rfl rfl (Nat.le_of_ble_eq_true rfl) (Nat.le_of_ble_eq_true rfl) dd_SY_init_8 (fun q_1 H hP hD hS => ?_)
  have hP : va_P g.1 vwCl [oc_o h 7 [.null, .int (nI 0), .int (nI 0)], oc_i g q_1 1108 (fun _ => 0)] H := hP
  have hD : va_D A [oc_o h 7 [.null, .int (nI 0), .int (nI 0)], oc_i g q_1 1108 (fun _ => 0)] := hD
  refine pf_SY_9 hin hx hb hts hown hK hP hD hS 0 rfl rfl rfl (Nat.le_of_ble_eq_true rfl) dd_SY_init_10 (fun H locs hP hD hS => ?_)
  have hP : va_P g.1 vwCl [oc_o h 7 [.ref q_1, .int (nI 0), .int (nI 0)], oc_i g q_1 1108 (fun _ => 0)] H := hP
  have hD : va_D A [oc_o h 7 [.ref q_1, .int (nI 0), .int (nI 0)], oc_i g q_1 1108 (fun _ => 0)] := hD
  refine lv_aload_n hx hb dd_SY_init_13 rfl (lv_at hl 0 rfl) ?_
  refine lv_iconst (v := nI 0) hx hb dd_SY_init_14 (by decide) ?_
  refine pf_SY_15 hx hb hts hown hK hP hD hS 0 rfl rfl rfl (Nat.le_of_ble_eq_true rfl) dd_SY_init_15 (fun H locs hP hD hS => ?_)
  have hP : va_P g.1 vwCl [oc_o h 7 [.ref q_1, .int (nI 0), .int (nI 0)], oc_i g q_1 1108 (fun _ => 0)] H := hP
  have hD : va_D A [oc_o h 7 [.ref q_1, .int (nI 0), .int (nI 0)], oc_i g q_1 1108 (fun _ => 0)] := hD
  refine lv_aload_n hx hb dd_SY_init_18 rfl (lv_at hl 0 rfl) ?_
  refine lv_iconst (v := nI 0) hx hb dd_SY_init_19 (by decide) ?_
  refine pf_SY_19 hx hb hts hown hK hP hD hS 0 rfl rfl rfl (Nat.le_of_ble_eq_true rfl) dd_SY_init_20 (fun H locs hP hD hS => ?_)
  have hP : va_P g.1 vwCl [oc_o h 7 [.ref q_1, .int (nI 0), .int (nI 0)], oc_i g q_1 1108 (fun _ => 0)] H := hP
  have hD : va_D A [oc_o h 7 [.ref q_1, .int (nI 0), .int (nI 0)], oc_i g q_1 1108 (fun _ => 0)] := hD
  exact xr_v hx hb hr hlk hQ hP hD hS (q_1) trivial [0, 1] (by decide) rfl (Nat.le_of_ble_eq_true rfl) (Nat.le_of_ble_eq_true rfl) dd_SY_init_23

set_option maxHeartbeats 4000000 in
set_option maxRecDepth 100000 in
theorem ct_sy_there (l : Launch) (g : xg_G) (h : Nat) (p9 : Nat) : kc_I l yy_SY_isThere cd_SY_isThere 1 .boolean { frames := 0, cells := 0, slots := 0, locals := 0 } g [.ref h] [oc_o h 7 [.ref p9, .int (nI 0), .int (nI 0)]] (S := Unit) (fun r0 _ => r0 = nI 0) (fun _ => [oc_o h 7 [.ref p9, .int (nI 0), .int (nI 0)]]) := by
  refine kc_Iof (by decide) (Nat.le_of_ble_eq_true rfl) ?_
  intro p e s m args below meth c A ls Q H locs hQ hB hP hS
  obtain ⟨hx, hb, hr, hlk, hin, hml, hown, hts, hA, hK, hD, hE, hl⟩ := hB
  have hF : xf_F g p m c cd_SY_isThere 1 s args "StackedRows$Symbol" A := ⟨⟨hx, hb, hml, hown, hts⟩, hE, hK, hA⟩
  have hl : lv_has ls 1 [(0, .ref h)] := hl
  have hown : s.vm.findClass "StackedRows$Symbol" = some m.cls := hown
  refine lv_aload_n hx hb dd_SY_isThere_0 rfl (lv_at hl 0 rfl) ?_
  refine gf_SY_15 hx hb hts hown hK hP 0 rfl rfl dd_SY_isThere_1 ?_
  refine lv_if_le (tgt := 11) hx hb dd_SY_isThere_4 rfl (fun _ => ?_) (fun h_1 => absurd (by decide) h_1)
  refine lv_iconst (v := nI 0) hx hb dd_SY_isThere_11 (by decide) ?_
  exact xr_i hx hb hr hlk hQ hP hD hS () (by first | rfl | exact congrArg nI (by omega)) [0] (by decide) rfl (by decide) (Nat.le_of_ble_eq_true rfl) (Nat.le_of_ble_eq_true rfl) dd_SY_isThere_12

set_option maxHeartbeats 4000000 in
set_option maxRecDepth 100000 in
theorem ct_sy_rows (l : Launch) (g : xg_G) (h : Nat) (p9 : Nat) (rr : Nat) (cc : Nat) : kc_I l yy_SY_rows cd_SY_rows 1 .int { frames := 0, cells := 0, slots := 0, locals := 0 } g [.ref h] [oc_o h 7 [.ref p9, .int (nI rr), .int (nI cc)]] (S := Unit) (fun r0 _ => r0 = nI rr) (fun _ => [oc_o h 7 [.ref p9, .int (nI rr), .int (nI cc)]]) := by
  refine kc_Iof (by decide) (Nat.le_of_ble_eq_true rfl) ?_
  intro p e s m args below meth c A ls Q H locs hQ hB hP hS
  obtain ⟨hx, hb, hr, hlk, hin, hml, hown, hts, hA, hK, hD, hE, hl⟩ := hB
  have hF : xf_F g p m c cd_SY_rows 1 s args "StackedRows$Symbol" A := ⟨⟨hx, hb, hml, hown, hts⟩, hE, hK, hA⟩
  have hl : lv_has ls 1 [(0, .ref h)] := hl
  have hown : s.vm.findClass "StackedRows$Symbol" = some m.cls := hown
  refine lv_aload_n hx hb dd_SY_rows_0 rfl (lv_at hl 0 rfl) ?_
  refine gf_SY_15 hx hb hts hown hK hP 0 rfl rfl dd_SY_rows_1 ?_
  exact xr_i hx hb hr hlk hQ hP hD hS () (by first | rfl | exact congrArg nI (by omega)) [0] (by decide) rfl rfl (Nat.le_of_ble_eq_true rfl) (Nat.le_of_ble_eq_true rfl) dd_SY_rows_4

set_option maxHeartbeats 4000000 in
set_option maxRecDepth 100000 in
theorem ct_sy_columns (l : Launch) (g : xg_G) (h : Nat) (p9 : Nat) (rr : Nat) (cc : Nat) : kc_I l yy_SY_columns cd_SY_columns 1 .int { frames := 0, cells := 0, slots := 0, locals := 0 } g [.ref h] [oc_o h 7 [.ref p9, .int (nI rr), .int (nI cc)]] (S := Unit) (fun r0 _ => r0 = nI cc) (fun _ => [oc_o h 7 [.ref p9, .int (nI rr), .int (nI cc)]]) := by
  refine kc_Iof (by decide) (Nat.le_of_ble_eq_true rfl) ?_
  intro p e s m args below meth c A ls Q H locs hQ hB hP hS
  obtain ⟨hx, hb, hr, hlk, hin, hml, hown, hts, hA, hK, hD, hE, hl⟩ := hB
  have hF : xf_F g p m c cd_SY_columns 1 s args "StackedRows$Symbol" A := ⟨⟨hx, hb, hml, hown, hts⟩, hE, hK, hA⟩
  have hl : lv_has ls 1 [(0, .ref h)] := hl
  have hown : s.vm.findClass "StackedRows$Symbol" = some m.cls := hown
  refine lv_aload_n hx hb dd_SY_columns_0 rfl (lv_at hl 0 rfl) ?_
  refine gf_SY_19 hx hb hts hown hK hP 0 rfl rfl dd_SY_columns_1 ?_
  exact xr_i hx hb hr hlk hQ hP hD hS () (by first | rfl | exact congrArg nI (by omega)) [0] (by decide) rfl rfl (Nat.le_of_ble_eq_true rfl) (Nat.le_of_ble_eq_true rfl) dd_SY_columns_4

set_option maxHeartbeats 4000000 in
set_option maxRecDepth 100000 in
theorem ct_sy_left (l : Launch) (g : xg_G) (i : Nat) (qi : i < 1000) : kc_I l yy_SY_leftKind cd_SY_leftKind 1 .int { frames := 0, cells := 0, slots := 0, locals := 0 } g [.int (nI i)] [] (S := Unit) (fun r0 _ => r0 = nI (i % 3)) (fun _ => []) := by
  refine kc_Iof (by decide) (Nat.le_of_ble_eq_true rfl) ?_
  intro p e s m args below meth c A ls Q H locs hQ hB hP hS
  obtain ⟨hx, hb, hr, hlk, hin, hml, hown, hts, hA, hK, hD, hE, hl⟩ := hB
  have hF : xf_F g p m c cd_SY_leftKind 1 s args "StackedRows$Symbol" A := ⟨⟨hx, hb, hml, hown, hts⟩, hE, hK, hA⟩
  have hl : lv_has ls 1 [(0, .int (nI i))] := hl
  have hown : s.vm.findClass "StackedRows$Symbol" = some m.cls := hown
  refine lv_iload_n hx hb dd_SY_leftKind_0 rfl (lv_at hl 0 rfl) ?_
  refine lv_iconst (v := nI 3) hx hb dd_SY_leftKind_1 (by decide) ?_
  refine xi_irem hx hb (by omega) (by omega) (by omega) dd_SY_leftKind_2 ?_
  exact xr_i hx hb hr hlk hQ hP hD hS () (by first | rfl | exact congrArg nI (by omega)) [] (by decide) rfl rfl (Nat.le_of_ble_eq_true rfl) (Nat.le_of_ble_eq_true rfl) dd_SY_leftKind_3

set_option maxHeartbeats 4000000 in
set_option maxRecDepth 100000 in
theorem ct_sy_right (l : Launch) (g : xg_G) (i : Nat) (qi : i < 1000) : kc_I l yy_SY_rightKind cd_SY_rightKind 1 .int { frames := 0, cells := 0, slots := 0, locals := 0 } g [.int (nI i)] [] (S := Unit) (fun r0 _ => r0 = nI ((i + 2) % 3)) (fun _ => []) := by
  refine kc_Iof (by decide) (Nat.le_of_ble_eq_true rfl) ?_
  intro p e s m args below meth c A ls Q H locs hQ hB hP hS
  obtain ⟨hx, hb, hr, hlk, hin, hml, hown, hts, hA, hK, hD, hE, hl⟩ := hB
  have hF : xf_F g p m c cd_SY_rightKind 1 s args "StackedRows$Symbol" A := ⟨⟨hx, hb, hml, hown, hts⟩, hE, hK, hA⟩
  have hl : lv_has ls 1 [(0, .int (nI i))] := hl
  have hown : s.vm.findClass "StackedRows$Symbol" = some m.cls := hown
  refine lv_iload_n hx hb dd_SY_rightKind_0 rfl (lv_at hl 0 rfl) ?_
  refine lv_iconst (v := nI 2) hx hb dd_SY_rightKind_1 (by decide) ?_
  refine xi_iadd hx hb dd_SY_rightKind_2 ?_
  refine lv_iconst (v := nI 3) hx hb dd_SY_rightKind_3 (by decide) ?_
  refine xi_irem hx hb (by omega) (by omega) (by omega) dd_SY_rightKind_4 ?_
  exact xr_i hx hb hr hlk hQ hP hD hS () (by first | rfl | exact congrArg nI (by omega)) [] (by decide) rfl rfl (Nat.le_of_ble_eq_true rfl) (Nat.le_of_ble_eq_true rfl) dd_SY_rightKind_5

set_option maxHeartbeats 4000000 in
set_option maxRecDepth 100000 in
theorem ct_sy_ind (l : Launch) (g : xg_G) (h : Nat) (p9 : Nat) (rr : Nat) (cc : Nat) (i : Nat) (L : Nat) (qr : 3 ≤ rr) (qr2 : rr ≤ 90) (qc : 1 ≤ cc) (qc2 : cc ≤ 30) (qi : i < 3) (qL : L ≤ 8) : kc_I l yy_SY_indicated cd_SY_indicated 3 .int { frames := 0, cells := 0, slots := 0, locals := 0 } g [.ref h, .int (nI i), .int (nI L)] [oc_o h 7 [.ref p9, .int (nI rr), .int (nI cc)]] (S := Unit) (fun _ _ => True) (fun _ => [oc_o h 7 [.ref p9, .int (nI rr), .int (nI cc)]]) := by
  refine kc_Iof (by decide) (Nat.le_of_ble_eq_true rfl) ?_
  intro p e s m args below meth c A ls Q H locs hQ hB hP hS
  obtain ⟨hx, hb, hr, hlk, hin, hml, hown, hts, hA, hK, hD, hE, hl⟩ := hB
  have hF : xf_F g p m c cd_SY_indicated 3 s args "StackedRows$Symbol" A := ⟨⟨hx, hb, hml, hown, hts⟩, hE, hK, hA⟩
  have hl : lv_has ls 3 [(0, .ref h), (1, .int (nI i)), (2, .int (nI L))] := hl
  have hown : s.vm.findClass "StackedRows$Symbol" = some m.cls := hown
  refine lv_iload_n hx hb dd_SY_indicated_0 rfl (lv_at hl 1 rfl) ?_
  refine xb_zne (tgt := 13) hx hb (by omega) dd_SY_indicated_1 rfl (fun h_1 => ?_) (fun h_1 => ?_)
  · refine lv_iload_n hx hb dd_SY_indicated_13 rfl (lv_at hl 1 rfl) ?_
    refine lv_iconst (v := nI 1) hx hb dd_SY_indicated_14 (by decide) ?_
    refine xb_ne (tgt := 33) hx hb (by omega) (by omega) dd_SY_indicated_15 rfl (fun h_2 => ?_) (fun h_2 => ?_)
    · refine lv_aload_n hx hb dd_SY_indicated_33 rfl (lv_at hl 0 rfl) ?_
      refine gf_SY_19 hx hb hts hown hK hP 0 rfl rfl dd_SY_indicated_34 ?_
      refine lv_iconst (v := nI 1) hx hb dd_SY_indicated_37 (by decide) ?_
      refine xi_isub hx hb (by omega) dd_SY_indicated_38 ?_
      exact xr_i hx hb hr hlk hQ hP hD hS () trivial [0] (by decide) rfl rfl (Nat.le_of_ble_eq_true rfl) (Nat.le_of_ble_eq_true rfl) dd_SY_indicated_39
    · refine lv_iconst (v := nI 3) hx hb dd_SY_indicated_18 (by decide) ?_
      refine lv_iload_n hx hb dd_SY_indicated_19 rfl (lv_at hl 2 rfl) ?_
      refine xi_imul hx hb dd_SY_indicated_20 ?_
      refine lv_aload_n hx hb dd_SY_indicated_21 rfl (lv_at hl 0 rfl) ?_
      refine gf_SY_15 hx hb hts hown hK hP 0 rfl rfl dd_SY_indicated_22 ?_
      refine lv_iconst (v := nI 1) hx hb dd_SY_indicated_25 (by decide) ?_
      refine xi_isub hx hb (by omega) dd_SY_indicated_26 ?_
      refine lv_iconst (v := nI 3) hx hb dd_SY_indicated_27 (by decide) ?_
      refine xi_irem hx hb (by omega) (by omega) (by omega) dd_SY_indicated_28 ?_
      refine xi_iadd hx hb dd_SY_indicated_29 ?_
      refine lv_goto (tgt := 39) hx hb dd_SY_indicated_30 rfl ?_
      exact xr_i hx hb hr hlk hQ hP hD hS () trivial [0] (by decide) rfl rfl (Nat.le_of_ble_eq_true rfl) (Nat.le_of_ble_eq_true rfl) dd_SY_indicated_39
  · refine lv_aload_n hx hb dd_SY_indicated_4 rfl (lv_at hl 0 rfl) ?_
    refine gf_SY_15 hx hb hts hown hK hP 0 rfl rfl dd_SY_indicated_5 ?_
    refine lv_iconst (v := nI 1) hx hb dd_SY_indicated_8 (by decide) ?_
    refine xi_isub hx hb (by omega) dd_SY_indicated_9 ?_
    refine lv_iconst (v := nI 3) hx hb dd_SY_indicated_10 (by decide) ?_
    refine xi_idiv hx hb (by omega) (by omega) (by omega) dd_SY_indicated_11 ?_
    exact xr_i hx hb hr hlk hQ hP hD hS () trivial [0] (by decide) rfl rfl (Nat.le_of_ble_eq_true rfl) (Nat.le_of_ble_eq_true rfl) dd_SY_indicated_12

set_option maxHeartbeats 4000000 in
set_option maxRecDepth 100000 in
theorem ct_sy_has (l : Launch) (g : xg_G) (h : Nat) (p9 : Nat) (rr : Nat) (cc : Nat) (i : Nat) (j : Nat) (qr : 3 ≤ rr) (qr2 : rr ≤ 90) (qc : 1 ≤ cc) (qc2 : cc ≤ 30) (qi : i < rr) (qj : j ≤ cc + 1) : kc_I l yy_SY_has cd_SY_has 3 .boolean { frames := 0, cells := 0, slots := 0, locals := 0 } g [.ref h, .int (nI i), .int (nI j)] [oc_o h 7 [.ref p9, .int (nI rr), .int (nI cc)]] (S := Unit) (fun r0 _ => r0 = nI 1) (fun _ => [oc_o h 7 [.ref p9, .int (nI rr), .int (nI cc)]]) := by
  refine kc_Iof (by decide) (Nat.le_of_ble_eq_true rfl) ?_
  intro p e s m args below meth c A ls Q H locs hQ hB hP hS
  obtain ⟨hx, hb, hr, hlk, hin, hml, hown, hts, hA, hK, hD, hE, hl⟩ := hB
  have hF : xf_F g p m c cd_SY_has 3 s args "StackedRows$Symbol" A := ⟨⟨hx, hb, hml, hown, hts⟩, hE, hK, hA⟩
  have hl : lv_has ls 3 [(0, .ref h), (1, .int (nI i)), (2, .int (nI j))] := hl
  have hown : s.vm.findClass "StackedRows$Symbol" = some m.cls := hown
  refine lv_iload_n hx hb dd_SY_has_0 rfl (lv_at hl 1 rfl) ?_
  refine xb_zlt (tgt := 30) hx hb (by omega) dd_SY_has_1 rfl ?_
  refine lv_iload_n hx hb dd_SY_has_4 rfl (lv_at hl 1 rfl) ?_
  refine lv_aload_n hx hb dd_SY_has_5 rfl (lv_at hl 0 rfl) ?_
  refine gf_SY_15 hx hb hts hown hK hP 0 rfl rfl dd_SY_has_6 ?_
  refine xb_ge (tgt := 30) hx hb (by omega) (by omega) dd_SY_has_9 rfl (fun h_1 => False.elim (by omega)) (fun h_1 => ?_)
  refine lv_iload_n hx hb dd_SY_has_12 rfl (lv_at hl 2 rfl) ?_
  refine xb_zlt (tgt := 30) hx hb (by omega) dd_SY_has_13 rfl ?_
  refine lv_iload_n hx hb dd_SY_has_16 rfl (lv_at hl 2 rfl) ?_
  refine lv_aload_n hx hb dd_SY_has_17 rfl (lv_at hl 0 rfl) ?_
  refine gf_SY_19 hx hb hts hown hK hP 0 rfl rfl dd_SY_has_18 ?_
  refine lv_iconst (v := nI 1) hx hb dd_SY_has_21 (by decide) ?_
  refine xi_iadd hx hb dd_SY_has_22 ?_
  refine xb_gt (tgt := 30) hx hb (by omega) (by omega) dd_SY_has_23 rfl (fun h_2 => False.elim (by omega)) (fun h_2 => ?_)
  refine lv_iconst (v := nI 1) hx hb dd_SY_has_26 (by decide) ?_
  refine lv_goto (tgt := 31) hx hb dd_SY_has_27 rfl ?_
  exact xr_i hx hb hr hlk hQ hP hD hS () (by first | rfl | exact congrArg nI (by omega)) [0] (by decide) rfl (by decide) (Nat.le_of_ble_eq_true rfl) (Nat.le_of_ble_eq_true rfl) dd_SY_has_31

set_option maxHeartbeats 4000000 in
set_option maxRecDepth 100000 in
theorem ct_sy_set (l : Launch) (g : xg_G) (h : Nat) (p9 : Nat) (rr : Nat) (cc : Nat) (i : Nat) (j : Nat) (x : Int32) (f : Nat → Int32) (qr : 3 ≤ rr) (qr2 : rr ≤ 90) (qc : 1 ≤ cc) (qc2 : cc ≤ 30) (qi : i < rr) (qj : j ≤ cc + 1) (qix : i * (cc + 2) + j < 1108) : kc_V l yy_SY_set cd_SY_set 4 { frames := 1, cells := 0, slots := 0, locals := 22 } g [.ref h, .int (nI i), .int (nI j), .int x] [oc_o h 7 [.ref p9, .int (nI rr), .int (nI cc)], oc_i g p9 1108 f] (S := (Nat → Int32)) (fun _ => True) (fun u0 => [oc_o h 7 [.ref p9, .int (nI rr), .int (nI cc)], oc_i g p9 1108 u0]) := by
  refine kc_Vof (by decide) (Nat.le_of_ble_eq_true rfl) ?_
  intro p e s m args below meth c A ls Q H locs hQ hB hP hS
  obtain ⟨hx, hb, hr, hlk, hin, hml, hown, hts, hA, hK, hD, hE, hl⟩ := hB
  have hF : xf_F g p m c cd_SY_set 4 s args "StackedRows$Symbol" A := ⟨⟨hx, hb, hml, hown, hts⟩, hE, hK, hA⟩
  have hl : lv_has ls 4 [(0, .ref h), (1, .int (nI i)), (2, .int (nI j)), (3, .int x)] := hl
  have hown : s.vm.findClass "StackedRows$Symbol" = some m.cls := hown
  refine lv_aload_n hx hb dd_SY_set_0 rfl (lv_at hl 0 rfl) ?_
  refine lv_iload_n hx hb dd_SY_set_1 rfl (lv_at hl 1 rfl) ?_
  refine lv_iload_n hx hb dd_SY_set_2 rfl (lv_at hl 2 rfl) ?_
  refine xc_Vi (wr := [oc_i g p9 1108 f]) (k1 := 0) (k2 := 0) (As := [.int (nI i), .int (nI j)]) (rest := []) (k := 2) hF hP hD hS (ct_sy_has l g h p9 rr cc i j (by omega) (by omega) (by omega) (by omega) (by omega) (by omega)) (xt_V ml_SY_28 wi_SY_has wx_SY_has wn_SY wc_SY_has) (by decide) 0 rfl rfl rfl [0] [1] ⟨rfl, rfl, by decide, by decide, by decide⟩ ⟨⟨Nat.le_of_ble_eq_true rfl, Nat.le_of_ble_eq_true rfl⟩, rfl, rfl, Nat.le_of_ble_eq_true rfl, Nat.le_of_ble_eq_true rfl⟩ rfl hl.1 rfl (Nat.le_of_ble_eq_true rfl) dd_SY_set_3 (fun r_1 u H locs hp hP hD hS => ?_)
  obtain rfl := hp
  have hP : va_P g.1 vwCl [oc_i g p9 1108 f, oc_o h 7 [.ref p9, .int (nI rr), .int (nI cc)]] H := hP
  have hD : va_D A [oc_i g p9 1108 f, oc_o h 7 [.ref p9, .int (nI rr), .int (nI cc)]] := hD
  refine lv_if_eq (tgt := 25) hx hb dd_SY_set_6 rfl (fun h_2 => absurd h_2 (by decide)) (fun _ => ?_)
  refine lv_aload_n hx hb dd_SY_set_9 rfl (lv_at hl 0 rfl) ?_
  refine gf_SY_9 hx hb hts hown hK hP 1 rfl rfl dd_SY_set_10 ?_
  refine lv_iload_n hx hb dd_SY_set_13 rfl (lv_at hl 1 rfl) ?_
  refine lv_aload_n hx hb dd_SY_set_14 rfl (lv_at hl 0 rfl) ?_
  refine gf_SY_19 hx hb hts hown hK hP 1 rfl rfl dd_SY_set_15 ?_
  refine lv_iconst (v := nI 2) hx hb dd_SY_set_18 (by decide) ?_
  refine xi_iadd hx hb dd_SY_set_19 ?_
  refine xi_imul hx hb dd_SY_set_20 ?_
  refine lv_iload_n hx hb dd_SY_set_21 rfl (lv_at hl 2 rfl) ?_
  refine xi_iadd hx hb dd_SY_set_22 ?_
  refine lv_iload_n hx hb dd_SY_set_23 rfl (lv_at hl 3 rfl) ?_
  refine xa_st hx hb hK hP hD hS 0 rfl (j := i * (cc + 2) + j) (by omega) (by omega) dd_SY_set_24 (fun f_3 H locs hP hD hS => ?_)
  have hP : va_P g.1 vwCl [oc_i g p9 1108 f_3, oc_o h 7 [.ref p9, .int (nI rr), .int (nI cc)]] H := hP
  have hD : va_D A [oc_i g p9 1108 f_3, oc_o h 7 [.ref p9, .int (nI rr), .int (nI cc)]] := hD
  exact xr_v hx hb hr hlk hQ hP hD hS (f_3) trivial [1, 0] (by decide) rfl (Nat.le_of_ble_eq_true rfl) (Nat.le_of_ble_eq_true rfl) dd_SY_set_25

set_option maxHeartbeats 4000000 in
set_option maxRecDepth 100000 in
theorem ct_ar_fill (l : Launch) (g : xg_G) (q : Nat) (nn : Nat) (f : Nat → Int32) (x : Int32) (qn : nn < 5000) : kc_V l yy_AR_fill cd_AR_fill 4 { frames := 0, cells := 0, slots := 0, locals := 0 } g [.ref q, .int x] [oc_i g q nn f] (S := (Nat → Int32)) (fun _ => True) (fun u0 => [oc_i g q nn u0]) := by
  refine kc_Vof (by decide) (Nat.le_of_ble_eq_true rfl) ?_
  intro p e s m args below meth c A ls Q H locs hQ hB hP hS
  obtain ⟨hx, hb, hr, hlk, hin, hml, hown, hts, hA, hK, hD, hE, hl⟩ := hB
  have hF : xf_F g p m c cd_AR_fill 4 s args "java/util/Arrays" A := ⟨⟨hx, hb, hml, hown, hts⟩, hE, hK, hA⟩
  have hl : lv_has ls 4 [(0, .ref q), (1, .int x)] := hl
  have hown : s.vm.findClass "java/util/Arrays" = some m.cls := hown
  refine lv_iconst (v := nI 0) hx hb dd_AR_fill_0 (by decide) ?_
  refine lv_istore_n (lv' := [(2, .int (nI 0)), (0, .ref q), (1, .int x)]) hx hb dd_AR_fill_1 rfl hl (by decide) rfl (fun ls hl => ?_)
  refine lv_aload_n hx hb dd_AR_fill_2 rfl (lv_at hl 1 rfl) ?_
  refine xa_len hx hb hK hP 0 rfl dd_AR_fill_3 ?_
  refine lv_istore_n (lv' := [(3, .int (nI nn)), (2, .int (nI 0)), (0, .ref q), (1, .int x)]) hx hb dd_AR_fill_4 rfl hl (by decide) rfl (fun ls hl => ?_)
  have lp_1 : ∀ (n1 : Nat) (i : Nat) (f : Nat → Int32) (H : Heap) (locs : List Loc) (ls : Array Slot), nn - i = n1 → (i ≤ nn) → lv_has ls 4 [(0, .ref q), (1, .int x), (2, .int (nI i)), (3, .int (nI nn))] → va_P g.1 vwCl [oc_i g q nn f] H → va_D A [oc_i g q nn f] → va_S A s.heap H locs → W p l e { frames := 0, cells := 0, slots := 0, locals := 0 } s m args below meth c H locs 0 0 Q (F0 m 5 ls []) := by
    intro n1
    induction n1 using Nat.strongRecOn with
    | _ n1 ih1 =>
    intro i f H locs ls hmn1 qi hl hP hD hS
    refine lv_iload_n hx hb dd_AR_fill_5 rfl (lv_at hl 2 rfl) ?_
    refine lv_iload_n hx hb dd_AR_fill_6 rfl (lv_at hl 3 rfl) ?_
    refine xb_ge (tgt := 20) hx hb (by omega) (by omega) dd_AR_fill_7 rfl (fun h_2 => ?_) (fun h_2 => ?_)
    · exact xr_v hx hb hr hlk hQ hP hD hS (f) trivial [0] (by decide) rfl (Nat.le_of_ble_eq_true rfl) (Nat.le_of_ble_eq_true rfl) dd_AR_fill_20
    · refine lv_aload_n hx hb dd_AR_fill_10 rfl (lv_at hl 0 rfl) ?_
      refine lv_iload_n hx hb dd_AR_fill_11 rfl (lv_at hl 2 rfl) ?_
      refine lv_iload_n hx hb dd_AR_fill_12 rfl (lv_at hl 1 rfl) ?_
      refine xa_st hx hb hK hP hD hS 0 rfl (j := i) (by omega) (by omega) dd_AR_fill_13 (fun f_3 H locs hP hD hS => ?_)
      have hP : va_P g.1 vwCl [oc_i g q nn f_3] H := hP
      have hD : va_D A [oc_i g q nn f_3] := hD
      refine lv_iinc (k := 2) (lv' := [(2, .int (nI (i + 1))), (0, .ref q), (1, .int x), (3, .int (nI nn))]) hx hb dd_AR_fill_14 hl rfl (xi_inc _) (by decide) rfl (fun ls hl => ?_)
      refine lv_goto (tgt := 5) hx hb dd_AR_fill_17 rfl ?_
      exact ih1 _ (by omega) (i + 1) f_3 H locs ls rfl (by omega) (lv_sub hl [1, 2, 0, 3] rfl) (hP.sub [0] rfl) (hD.sub [0] (by decide) rfl) hS
  exact lp_1 _ 0 f H locs ls rfl (by omega) (lv_sub hl [2, 3, 1, 0] rfl) (hP.sub [0] rfl) (hD.sub [0] (by decide) rfl) hS

set_option maxHeartbeats 4000000 in
set_option maxRecDepth 100000 in
theorem ct_sy_begin (l : Launch) (g : xg_G) (h : Nat) (p9 : Nat) (rr : Nat) (cc : Nat) (r2 : Nat) (c2 : Nat) (f : Nat → Int32) : kc_V l yy_SY_begin cd_SY_begin 3 { frames := 1, cells := 0, slots := 0, locals := 23 } g [.ref h, .int (nI r2), .int (nI c2)] [oc_o h 7 [.ref p9, .int (nI rr), .int (nI cc)], oc_i g p9 1108 f] (S := (Nat → Int32)) (fun _ => True) (fun u0 => [oc_o h 7 [.ref p9, .int (nI r2), .int (nI c2)], oc_i g p9 1108 u0]) := by
  refine kc_Vof (by decide) (Nat.le_of_ble_eq_true rfl) ?_
  intro p e s m args below meth c A ls Q H locs hQ hB hP hS
  obtain ⟨hx, hb, hr, hlk, hin, hml, hown, hts, hA, hK, hD, hE, hl⟩ := hB
  have hF : xf_F g p m c cd_SY_begin 3 s args "StackedRows$Symbol" A := ⟨⟨hx, hb, hml, hown, hts⟩, hE, hK, hA⟩
  have hl : lv_has ls 3 [(0, .ref h), (1, .int (nI r2)), (2, .int (nI c2))] := hl
  have hown : s.vm.findClass "StackedRows$Symbol" = some m.cls := hown
  refine lv_aload_n hx hb dd_SY_begin_0 rfl (lv_at hl 0 rfl) ?_
  refine lv_iload_n hx hb dd_SY_begin_1 rfl (lv_at hl 1 rfl) ?_
  refine pf_SY_15 hx hb hts hown hK hP hD hS 0 rfl rfl rfl (Nat.le_of_ble_eq_true rfl) dd_SY_begin_2 (fun H locs hP hD hS => ?_)
  have hP : va_P g.1 vwCl [oc_o h 7 [.ref p9, .int (nI r2), .int (nI cc)], oc_i g p9 1108 f] H := hP
  have hD : va_D A [oc_o h 7 [.ref p9, .int (nI r2), .int (nI cc)], oc_i g p9 1108 f] := hD
  refine lv_aload_n hx hb dd_SY_begin_5 rfl (lv_at hl 0 rfl) ?_
  refine lv_iload_n hx hb dd_SY_begin_6 rfl (lv_at hl 2 rfl) ?_
  refine pf_SY_19 hx hb hts hown hK hP hD hS 0 rfl rfl rfl (Nat.le_of_ble_eq_true rfl) dd_SY_begin_7 (fun H locs hP hD hS => ?_)
  have hP : va_P g.1 vwCl [oc_o h 7 [.ref p9, .int (nI r2), .int (nI c2)], oc_i g p9 1108 f] H := hP
  have hD : va_D A [oc_o h 7 [.ref p9, .int (nI r2), .int (nI c2)], oc_i g p9 1108 f] := hD
  refine lv_aload_n hx hb dd_SY_begin_10 rfl (lv_at hl 0 rfl) ?_
  refine gf_SY_9 hx hb hts hown hK hP 0 rfl rfl dd_SY_begin_11 ?_
  refine lv_iconst (v := -1) hx hb dd_SY_begin_14 (by decide) ?_
  refine xc_Sv (wr := [oc_o h 7 [.ref p9, .int (nI r2), .int (nI c2)]]) (k1 := 0) (k2 := 0) (As := [.ref p9, .int (-1)]) (rest := []) (k := 2) hF hP hD hS (ct_ar_fill l g p9 1108 f (-1) (by omega)) wc_AR_fill wn_AR ml_SY_22 wz_AR_fill (by decide) [1] [0] ⟨rfl, rfl, by decide, by decide, by decide⟩ ⟨⟨Nat.le_of_ble_eq_true rfl, Nat.le_of_ble_eq_true rfl⟩, rfl, rfl, Nat.le_of_ble_eq_true rfl, Nat.le_of_ble_eq_true rfl⟩ rfl hl.1 rfl (Nat.le_of_ble_eq_true rfl) dd_SY_begin_15 (fun f_1 H locs hp hP hD hS => ?_)
  have hP : va_P g.1 vwCl [oc_o h 7 [.ref p9, .int (nI r2), .int (nI c2)], oc_i g p9 1108 f_1] H := hP
  have hD : va_D A [oc_o h 7 [.ref p9, .int (nI r2), .int (nI c2)], oc_i g p9 1108 f_1] := hD
  exact xr_v hx hb hr hlk hQ hP hD hS (f_1) trivial [0, 1] (by decide) rfl (Nat.le_of_ble_eq_true rfl) (Nat.le_of_ble_eq_true rfl) dd_SY_begin_18

set_option maxHeartbeats 4000000 in
set_option maxRecDepth 100000 in
theorem ct_sy_fill (l : Launch) (g : xg_G) (h : Nat) (p9 : Nat) (rw : Nat) (rr : Nat) (cc : Nat) (L : Nat) (f : Nat → Int32) (f0 : Nat → Int32) (qr : 3 ≤ rr) (qr2 : rr ≤ 90) (qc : 1 ≤ cc) (qc2 : cc ≤ 30) (qL : L ≤ 8) (qn : rr * cc ≤ 928) : kc_V l yy_SY_fill cd_SY_fill 5 { frames := 2, cells := 0, slots := 0, locals := 45 } g [.ref h, .ref rw, .int (nI L)] [oc_o h 7 [.ref p9, .int (nI rr), .int (nI cc)], oc_i g p9 1108 f, oc_i g rw 928 f0] (S := (Nat → Int32)) (fun _ => True) (fun u0 => [oc_o h 7 [.ref p9, .int (nI rr), .int (nI cc)], oc_i g p9 1108 u0, oc_i g rw 928 f0]) := by
  refine kc_Vof (by decide) (Nat.le_of_ble_eq_true rfl) ?_
  intro p e s m args below meth c A ls Q H locs hQ hB hP hS
  obtain ⟨hx, hb, hr, hlk, hin, hml, hown, hts, hA, hK, hD, hE, hl⟩ := hB
  have hF : xf_F g p m c cd_SY_fill 5 s args "StackedRows$Symbol" A := ⟨⟨hx, hb, hml, hown, hts⟩, hE, hK, hA⟩
  have hl : lv_has ls 5 [(0, .ref h), (1, .ref rw), (2, .int (nI L))] := hl
  have hown : s.vm.findClass "StackedRows$Symbol" = some m.cls := hown
  refine lv_iconst (v := nI 0) hx hb dd_SY_fill_0 (by decide) ?_
  refine lv_istore_n (lv' := [(3, .int (nI 0)), (0, .ref h), (1, .ref rw), (2, .int (nI L))]) hx hb dd_SY_fill_1 rfl hl (by decide) rfl (fun ls hl => ?_)
  have lp_1 : ∀ (n1 : Nat) (i : Nat) (f : Nat → Int32) (H : Heap) (locs : List Loc) (ls : Array Slot), rr - i = n1 → (i ≤ rr) → lv_has ls 5 [(0, .ref h), (1, .ref rw), (2, .int (nI L)), (3, .int (nI i))] → va_P g.1 vwCl [oc_o h 7 [.ref p9, .int (nI rr), .int (nI cc)], oc_i g p9 1108 f, oc_i g rw 928 f0] H → va_D A [oc_o h 7 [.ref p9, .int (nI rr), .int (nI cc)], oc_i g p9 1108 f, oc_i g rw 928 f0] → va_S A s.heap H locs → W p l e { frames := 2, cells := 0, slots := 0, locals := 45 } s m args below meth c H locs 0 0 Q (F0 m 2 ls []) := by
    intro n1
    induction n1 using Nat.strongRecOn with
    | _ n1 ih1 =>
    intro i f H locs ls hmn1 qi hl hP hD hS
    refine lv_iload_n hx hb dd_SY_fill_2 rfl (lv_at hl 3 rfl) ?_
    refine lv_aload_n hx hb dd_SY_fill_3 rfl (lv_at hl 0 rfl) ?_
    refine gf_SY_15 hx hb hts hown hK hP 0 rfl rfl dd_SY_fill_4 ?_
    refine xb_ge (tgt := 103) hx hb (by omega) (by omega) dd_SY_fill_7 rfl (fun qi9 => ?_) (fun qi9 => ?_)
    · exact xr_v hx hb hr hlk hQ hP hD hS (f) trivial [0, 1, 2] (by decide) rfl (Nat.le_of_ble_eq_true rfl) (Nat.le_of_ble_eq_true rfl) dd_SY_fill_103
    · refine lv_aload_n hx hb dd_SY_fill_10 rfl (lv_at hl 0 rfl) ?_
      refine lv_iload_n hx hb dd_SY_fill_11 rfl (lv_at hl 3 rfl) ?_
      refine lv_iconst (v := nI 0) hx hb dd_SY_fill_12 (by decide) ?_
      refine lv_bipush (v := nI 30) hx hb dd_SY_fill_13 (by decide) ?_
      refine lv_iload_n hx hb dd_SY_fill_15 rfl (lv_at hl 3 rfl) ?_
      refine lv_iconst (v := nI 3) hx hb dd_SY_fill_16 (by decide) ?_
      refine xi_idiv hx hb (by omega) (by omega) (by omega) dd_SY_fill_17 ?_
      refine xi_imul hx hb dd_SY_fill_18 ?_
      refine lv_aload_n hx hb dd_SY_fill_19 rfl (lv_at hl 0 rfl) ?_
      refine lv_iload_n hx hb dd_SY_fill_20 rfl (lv_at hl 3 rfl) ?_
      refine xc_Si (wr := [oc_o h 7 [.ref p9, .int (nI rr), .int (nI cc)], oc_i g p9 1108 f, oc_i g rw 928 f0]) (k1 := 0) (k2 := 0) (As := [.int (nI i)]) (rest := [.ref h, .int (nI (30 * (i / 3))), .int (nI 0), .int (nI i), .ref h]) (k := 1) hF hP hD hS (ct_sy_left l g i (by omega)) wc_SY_leftKind wn_SY ml_SY_32 wz_SY_leftKind (by decide) [] [0, 1, 2] ⟨rfl, rfl, by decide, by decide, by decide⟩ ⟨⟨Nat.le_of_ble_eq_true rfl, Nat.le_of_ble_eq_true rfl⟩, rfl, rfl, Nat.le_of_ble_eq_true rfl, Nat.le_of_ble_eq_true rfl⟩ rfl hl.1 rfl (Nat.le_of_ble_eq_true rfl) dd_SY_fill_21 (fun r_2 u H locs hp hP hD hS => ?_)
      obtain rfl := hp
      have hP : va_P g.1 vwCl [oc_o h 7 [.ref p9, .int (nI rr), .int (nI cc)], oc_i g p9 1108 f, oc_i g rw 928 f0] H := hP
      have hD : va_D A [oc_o h 7 [.ref p9, .int (nI rr), .int (nI cc)], oc_i g p9 1108 f, oc_i g rw 928 f0] := hD
      refine lv_iload_n hx hb dd_SY_fill_24 rfl (lv_at hl 2 rfl) ?_
      have q3 : i % 3 < 3 := Nat.mod_lt _ (by decide)
      refine xc_Vi (wr := [oc_i g p9 1108 f, oc_i g rw 928 f0]) (k1 := 0) (k2 := 0) (As := [.int (nI (i % 3)), .int (nI L)]) (rest := [.int (nI (30 * (i / 3))), .int (nI 0), .int (nI i), .ref h]) (k := 2) hF hP hD hS (ct_sy_ind l g h p9 rr cc (i % 3) L (by omega) (by omega) (by omega) (by omega) (by omega) (by omega)) (xt_V ml_SY_36 wi_SY_indicated wx_SY_indicated wn_SY wc_SY_indicated) (by decide) 0 rfl rfl rfl [0] [1, 2] ⟨rfl, rfl, by decide, by decide, by decide⟩ ⟨⟨Nat.le_of_ble_eq_true rfl, Nat.le_of_ble_eq_true rfl⟩, rfl, rfl, Nat.le_of_ble_eq_true rfl, Nat.le_of_ble_eq_true rfl⟩ rfl hl.1 rfl (Nat.le_of_ble_eq_true rfl) dd_SY_fill_25 (fun r_3 u H locs hp hP hD hS => ?_)
      have hP : va_P g.1 vwCl [oc_i g p9 1108 f, oc_i g rw 928 f0, oc_o h 7 [.ref p9, .int (nI rr), .int (nI cc)]] H := hP
      have hD : va_D A [oc_i g p9 1108 f, oc_i g rw 928 f0, oc_o h 7 [.ref p9, .int (nI rr), .int (nI cc)]] := hD
      refine lv_iadd hx hb dd_SY_fill_28 (lv_topi (fun x_4 _ => ?_))
      have qix := xr_ix (j := 0) qi9 (by omega) qr2 qn
      refine xc_Vv (wr := [oc_i g rw 928 f0]) (k1 := 0) (k2 := 0) (As := [.int (nI i), .int (nI 0), .int x_4]) (rest := []) (k := 3) hF hP hD hS (ct_sy_set l g h p9 rr cc i 0 x_4 f (by omega) (by omega) (by omega) (by omega) (by omega) (by omega) (by omega)) (xt_V ml_SY_40 wi_SY_set wx_SY_set wn_SY wc_SY_set) (by decide) 2 rfl rfl rfl [2, 0] [1] ⟨rfl, rfl, by decide, by decide, by decide⟩ ⟨⟨Nat.le_of_ble_eq_true rfl, Nat.le_of_ble_eq_true rfl⟩, rfl, rfl, Nat.le_of_ble_eq_true rfl, Nat.le_of_ble_eq_true rfl⟩ rfl hl.1 rfl (Nat.le_of_ble_eq_true rfl) dd_SY_fill_29 (fun f_5 H locs hp hP hD hS => ?_)
      have hP : va_P g.1 vwCl [oc_i g rw 928 f0, oc_o h 7 [.ref p9, .int (nI rr), .int (nI cc)], oc_i g p9 1108 f_5] H := hP
      have hD : va_D A [oc_i g rw 928 f0, oc_o h 7 [.ref p9, .int (nI rr), .int (nI cc)], oc_i g p9 1108 f_5] := hD
      refine lv_aload_n hx hb dd_SY_fill_32 rfl (lv_at hl 0 rfl) ?_
      refine lv_iload_n hx hb dd_SY_fill_33 rfl (lv_at hl 3 rfl) ?_
      refine lv_aload_n hx hb dd_SY_fill_34 rfl (lv_at hl 0 rfl) ?_
      refine gf_SY_19 hx hb hts hown hK hP 1 rfl rfl dd_SY_fill_35 ?_
      refine lv_iconst (v := nI 1) hx hb dd_SY_fill_38 (by decide) ?_
      refine xi_iadd hx hb dd_SY_fill_39 ?_
      refine lv_bipush (v := nI 30) hx hb dd_SY_fill_40 (by decide) ?_
      refine lv_iload_n hx hb dd_SY_fill_42 rfl (lv_at hl 3 rfl) ?_
      refine lv_iconst (v := nI 3) hx hb dd_SY_fill_43 (by decide) ?_
      refine xi_idiv hx hb (by omega) (by omega) (by omega) dd_SY_fill_44 ?_
      refine xi_imul hx hb dd_SY_fill_45 ?_
      refine lv_aload_n hx hb dd_SY_fill_46 rfl (lv_at hl 0 rfl) ?_
      refine lv_iload_n hx hb dd_SY_fill_47 rfl (lv_at hl 3 rfl) ?_
      refine xc_Si (wr := [oc_i g rw 928 f0, oc_o h 7 [.ref p9, .int (nI rr), .int (nI cc)], oc_i g p9 1108 f_5]) (k1 := 0) (k2 := 0) (As := [.int (nI i)]) (rest := [.ref h, .int (nI (30 * (i / 3))), .int (nI (cc + 1)), .int (nI i), .ref h]) (k := 1) hF hP hD hS (ct_sy_right l g i (by omega)) wc_SY_rightKind wn_SY ml_SY_44 wz_SY_rightKind (by decide) [] [0, 1, 2] ⟨rfl, rfl, by decide, by decide, by decide⟩ ⟨⟨Nat.le_of_ble_eq_true rfl, Nat.le_of_ble_eq_true rfl⟩, rfl, rfl, Nat.le_of_ble_eq_true rfl, Nat.le_of_ble_eq_true rfl⟩ rfl hl.1 rfl (Nat.le_of_ble_eq_true rfl) dd_SY_fill_48 (fun r_7 u H locs hp hP hD hS => ?_)
      obtain rfl := hp
      have hP : va_P g.1 vwCl [oc_i g rw 928 f0, oc_o h 7 [.ref p9, .int (nI rr), .int (nI cc)], oc_i g p9 1108 f_5] H := hP
      have hD : va_D A [oc_i g rw 928 f0, oc_o h 7 [.ref p9, .int (nI rr), .int (nI cc)], oc_i g p9 1108 f_5] := hD
      refine lv_iload_n hx hb dd_SY_fill_51 rfl (lv_at hl 2 rfl) ?_
      have q3 : (i + 2) % 3 < 3 := Nat.mod_lt _ (by decide)
      refine xc_Vi (wr := [oc_i g rw 928 f0, oc_i g p9 1108 f_5]) (k1 := 0) (k2 := 0) (As := [.int (nI ((i + 2) % 3)), .int (nI L)]) (rest := [.int (nI (30 * (i / 3))), .int (nI (cc + 1)), .int (nI i), .ref h]) (k := 2) hF hP hD hS (ct_sy_ind l g h p9 rr cc ((i + 2) % 3) L (by omega) (by omega) (by omega) (by omega) (by omega) (by omega)) (xt_V ml_SY_36 wi_SY_indicated wx_SY_indicated wn_SY wc_SY_indicated) (by decide) 1 rfl rfl rfl [1] [0, 2] ⟨rfl, rfl, by decide, by decide, by decide⟩ ⟨⟨Nat.le_of_ble_eq_true rfl, Nat.le_of_ble_eq_true rfl⟩, rfl, rfl, Nat.le_of_ble_eq_true rfl, Nat.le_of_ble_eq_true rfl⟩ rfl hl.1 rfl (Nat.le_of_ble_eq_true rfl) dd_SY_fill_52 (fun r_8 u H locs hp hP hD hS => ?_)
      have hP : va_P g.1 vwCl [oc_i g rw 928 f0, oc_i g p9 1108 f_5, oc_o h 7 [.ref p9, .int (nI rr), .int (nI cc)]] H := hP
      have hD : va_D A [oc_i g rw 928 f0, oc_i g p9 1108 f_5, oc_o h 7 [.ref p9, .int (nI rr), .int (nI cc)]] := hD
      refine lv_iadd hx hb dd_SY_fill_55 (lv_topi (fun x_9 _ => ?_))
      have qix := xr_ix (j := cc + 1) qi9 (by omega) qr2 qn
      refine xc_Vv (wr := [oc_i g rw 928 f0]) (k1 := 0) (k2 := 0) (As := [.int (nI i), .int (nI (cc + 1)), .int x_9]) (rest := []) (k := 3) hF hP hD hS (ct_sy_set l g h p9 rr cc i (cc + 1) x_9 f_5 (by omega) (by omega) (by omega) (by omega) (by omega) (by omega) (by omega)) (xt_V ml_SY_40 wi_SY_set wx_SY_set wn_SY wc_SY_set) (by decide) 2 rfl rfl rfl [2, 1] [0] ⟨rfl, rfl, by decide, by decide, by decide⟩ ⟨⟨Nat.le_of_ble_eq_true rfl, Nat.le_of_ble_eq_true rfl⟩, rfl, rfl, Nat.le_of_ble_eq_true rfl, Nat.le_of_ble_eq_true rfl⟩ rfl hl.1 rfl (Nat.le_of_ble_eq_true rfl) dd_SY_fill_56 (fun f_10 H locs hp hP hD hS => ?_)
      have hP : va_P g.1 vwCl [oc_i g rw 928 f0, oc_o h 7 [.ref p9, .int (nI rr), .int (nI cc)], oc_i g p9 1108 f_10] H := hP
      have hD : va_D A [oc_i g rw 928 f0, oc_o h 7 [.ref p9, .int (nI rr), .int (nI cc)], oc_i g p9 1108 f_10] := hD
      refine lv_iconst (v := nI 1) hx hb dd_SY_fill_59 (by decide) ?_
      refine lv_istore (lv' := [(4, .int (nI 1)), (0, .ref h), (1, .ref rw), (2, .int (nI L)), (3, .int (nI i))]) hx hb dd_SY_fill_60 hl (by decide) rfl (fun ls hl => ?_)
      have lp_12 : ∀ (n12 : Nat) (j : Nat) (f : Nat → Int32) (H : Heap) (locs : List Loc) (ls : Array Slot), cc + 1 - j = n12 → (1 ≤ j) → (j ≤ cc + 1) → lv_has ls 5 [(0, .ref h), (1, .ref rw), (2, .int (nI L)), (3, .int (nI i)), (4, .int (nI j))] → va_P g.1 vwCl [oc_o h 7 [.ref p9, .int (nI rr), .int (nI cc)], oc_i g p9 1108 f, oc_i g rw 928 f0] H → va_D A [oc_o h 7 [.ref p9, .int (nI rr), .int (nI cc)], oc_i g p9 1108 f, oc_i g rw 928 f0] → va_S A s.heap H locs → W p l e { frames := 2, cells := 0, slots := 0, locals := 45 } s m args below meth c H locs 0 0 Q (F0 m 62 ls []) := by
        intro n12
        induction n12 using Nat.strongRecOn with
        | _ n12 ih12 =>
        intro j f H locs ls hmn12 qj1 qj2 hl hP hD hS
        refine lv_iload hx hb dd_SY_fill_62 (lv_at hl 4 rfl) ?_
        refine lv_aload_n hx hb dd_SY_fill_64 rfl (lv_at hl 0 rfl) ?_
        refine gf_SY_19 hx hb hts hown hK hP 0 rfl rfl dd_SY_fill_65 ?_
        refine xb_gt (tgt := 97) hx hb (by omega) (by omega) dd_SY_fill_68 rfl (fun qj9 => ?_) (fun qj9 => ?_)
        · refine lv_iinc (k := 3) (lv' := [(3, .int (nI (i + 1))), (0, .ref h), (1, .ref rw), (2, .int (nI L)), (4, .int (nI j))]) hx hb dd_SY_fill_97 hl rfl (xi_inc _) (by decide) rfl (fun ls hl => ?_)
          refine lv_goto (tgt := 2) hx hb dd_SY_fill_100 rfl ?_
          exact ih1 _ (by omega) (i + 1) f H locs ls rfl (by omega) (lv_sub hl [1, 2, 3, 0] rfl) (hP.sub [0, 1, 2] rfl) (hD.sub [0, 1, 2] (by decide) rfl) hS
        · refine lv_aload_n hx hb dd_SY_fill_71 rfl (lv_at hl 0 rfl) ?_
          refine lv_iload_n hx hb dd_SY_fill_72 rfl (lv_at hl 3 rfl) ?_
          refine lv_iload hx hb dd_SY_fill_73 (lv_at hl 4 rfl) ?_
          refine lv_aload_n hx hb dd_SY_fill_75 rfl (lv_at hl 1 rfl) ?_
          refine lv_iload_n hx hb dd_SY_fill_76 rfl (lv_at hl 3 rfl) ?_
          refine lv_aload_n hx hb dd_SY_fill_77 rfl (lv_at hl 0 rfl) ?_
          refine gf_SY_19 hx hb hts hown hK hP 0 rfl rfl dd_SY_fill_78 ?_
          refine xi_imul hx hb dd_SY_fill_81 ?_
          refine lv_iload hx hb dd_SY_fill_82 (lv_at hl 4 rfl) ?_
          refine xi_iadd hx hb dd_SY_fill_84 ?_
          refine lv_iconst (v := nI 1) hx hb dd_SY_fill_85 (by decide) ?_
          refine xi_isub hx hb (by omega) dd_SY_fill_86 ?_
          have qiy := xr_iy qi9 qj1 qj9
          refine xa_ld hx hb hK hP 2 rfl (j := (i * cc + j) - 1) (by omega) (by omega) dd_SY_fill_87 ?_
          have qix := xr_ix (j := j) qi9 (by omega) qr2 qn
          refine xc_Vv (wr := [oc_i g rw 928 f0]) (k1 := 0) (k2 := 0) (As := [.int (nI i), .int (nI j), .int (f0 ((i * cc + j) - 1))]) (rest := []) (k := 3) hF hP hD hS (ct_sy_set l g h p9 rr cc i j (f0 ((i * cc + j) - 1)) f (by omega) (by omega) (by omega) (by omega) (by omega) (by omega) (by omega)) (xt_V ml_SY_40 wi_SY_set wx_SY_set wn_SY wc_SY_set) (by decide) 0 rfl rfl rfl [0, 1] [2] ⟨rfl, rfl, by decide, by decide, by decide⟩ ⟨⟨Nat.le_of_ble_eq_true rfl, Nat.le_of_ble_eq_true rfl⟩, rfl, rfl, Nat.le_of_ble_eq_true rfl, Nat.le_of_ble_eq_true rfl⟩ rfl hl.1 rfl (Nat.le_of_ble_eq_true rfl) dd_SY_fill_88 (fun f_13 H locs hp hP hD hS => ?_)
          have hP : va_P g.1 vwCl [oc_i g rw 928 f0, oc_o h 7 [.ref p9, .int (nI rr), .int (nI cc)], oc_i g p9 1108 f_13] H := hP
          have hD : va_D A [oc_i g rw 928 f0, oc_o h 7 [.ref p9, .int (nI rr), .int (nI cc)], oc_i g p9 1108 f_13] := hD
          refine lv_iinc (k := 4) (lv' := [(4, .int (nI (j + 1))), (0, .ref h), (1, .ref rw), (2, .int (nI L)), (3, .int (nI i))]) hx hb dd_SY_fill_91 hl rfl (xi_inc _) (by decide) rfl (fun ls hl => ?_)
          refine lv_goto (tgt := 62) hx hb dd_SY_fill_94 rfl ?_
          exact ih12 _ (by omega) (j + 1) f_13 H locs ls rfl (by omega) (by omega) (lv_sub hl [1, 2, 3, 4, 0] rfl) (hP.sub [1, 2, 0] rfl) (hD.sub [1, 2, 0] (by decide) rfl) hS
      exact lp_12 _ 1 f_10 H locs ls rfl (by omega) (by omega) (lv_sub hl [1, 2, 3, 4, 0] rfl) (hP.sub [1, 2, 0] rfl) (hD.sub [1, 2, 0] (by decide) rfl) hS
  exact lp_1 _ 0 f H locs ls rfl (by omega) (lv_sub hl [1, 2, 3, 0] rfl) (hP.sub [0, 1, 2] rfl) (hD.sub [0, 1, 2] (by decide) rfl) hS
end
section
set_option maxHeartbeats 4000000 in
set_option maxRecDepth 100000 in
theorem ct_neg (l : Launch) (g : xg_G) (x : Int32) : kc_I l yy_SR_negative cd_SR_negative 1 .int { frames := 0, cells := 0, slots := 0, locals := 0 } g [.int x] [] (S := Unit) (fun _ _ => True) (fun _ => []) := by
  refine kc_Iof (by decide) (Nat.le_of_ble_eq_true rfl) ?_
  intro p e s m args below meth c A ls Q H locs hQ hB hP hS
  obtain ⟨hx, hb, hr, hlk, hin, hml, hown, hts, hA, hK, hD, hE, hl⟩ := hB
  have hF : xf_F g p m c cd_SR_negative 1 s args "StackedRows" A := ⟨⟨hx, hb, hml, hown, hts⟩, hE, hK, hA⟩
  have hl : lv_has ls 1 [(0, .int x)] := hl
  have hown : s.vm.findClass "StackedRows" = some m.cls := hown
  refine lv_sipush (v := nI 929) hx hb dd_SR_negative_0 (by decide) ?_
  refine lv_iload_n hx hb dd_SR_negative_3 rfl (lv_at hl 0 rfl) ?_
  refine lv_isub hx hb dd_SR_negative_4 (lv_topi (fun x_1 _ => ?_))
  refine lv_sipush (v := nI 929) hx hb dd_SR_negative_5 (by decide) ?_
  refine xi_remR hx hb (by decide) dd_SR_negative_8 (fun x_2 => ?_)
  exact xr_i hx hb hr hlk hQ hP hD hS () trivial [] (by decide) rfl rfl (Nat.le_of_ble_eq_true rfl) (Nat.le_of_ble_eq_true rfl) dd_SR_negative_9

set_option maxHeartbeats 4000000 in
set_option maxRecDepth 100000 in
theorem ct_chk (l : Launch) (g : xg_G) (L : Nat) (K : Nat) (qL : L ≤ 8) (qK : K = 2 ^ (L + 1)) : kc_I l yy_SR_checksOf cd_SR_checksOf 1 .int { frames := 0, cells := 0, slots := 0, locals := 0 } g [.int (nI L)] [] (S := Unit) (fun r0 _ => r0 = nI K) (fun _ => []) := by
  refine kc_Iof (by decide) (Nat.le_of_ble_eq_true rfl) ?_
  intro p e s m args below meth c A ls Q H locs hQ hB hP hS
  obtain ⟨hx, hb, hr, hlk, hin, hml, hown, hts, hA, hK, hD, hE, hl⟩ := hB
  have hF : xf_F g p m c cd_SR_checksOf 1 s args "StackedRows" A := ⟨⟨hx, hb, hml, hown, hts⟩, hE, hK, hA⟩
  have hl : lv_has ls 1 [(0, .int (nI L))] := hl
  have hown : s.vm.findClass "StackedRows" = some m.cls := hown
  refine lv_iconst (v := nI 2) hx hb dd_SR_checksOf_0 (by decide) ?_
  refine lv_iload_n hx hb dd_SR_checksOf_1 rfl (lv_at hl 0 rfl) ?_
  refine lv_ishl hx hb dd_SR_checksOf_2 (xi_eq (v := nI K) (xr_shl qL qK) ?_)
  exact xr_i hx hb hr hlk hQ hP hD hS () (by first | rfl | exact congrArg nI (by omega)) [] (by decide) rfl rfl (Nat.le_of_ble_eq_true rfl) (Nat.le_of_ble_eq_true rfl) dd_SR_checksOf_3

set_option maxHeartbeats 4000000 in
set_option maxRecDepth 100000 in
theorem ct_rows (l : Launch) (g : xg_G) (w : Nat) (cc : Nat) (rr : Nat) (qc : 1 ≤ cc) (qc2 : cc ≤ 30) (qw : w ≤ 600) (qr : rr = xr_min w cc) : kc_I l yy_SR_rowsFor cd_SR_rowsFor 3 .int { frames := 0, cells := 0, slots := 0, locals := 0 } g [.int (nI w), .int (nI cc)] [] (S := Unit) (fun r0 _ => r0 = nI rr) (fun _ => []) := by
  refine kc_Iof (by decide) (Nat.le_of_ble_eq_true rfl) ?_
  intro p e s m args below meth c A ls Q H locs hQ hB hP hS
  obtain ⟨hx, hb, hr, hlk, hin, hml, hown, hts, hA, hK, hD, hE, hl⟩ := hB
  have hF : xf_F g p m c cd_SR_rowsFor 3 s args "StackedRows" A := ⟨⟨hx, hb, hml, hown, hts⟩, hE, hK, hA⟩
  have hl : lv_has ls 3 [(0, .int (nI w)), (1, .int (nI cc))] := hl
  have hown : s.vm.findClass "StackedRows" = some m.cls := hown
  refine lv_iconst (v := nI 3) hx hb dd_SR_rowsFor_0 (by decide) ?_
  refine lv_istore_n (lv' := [(2, .int (nI 3)), (0, .int (nI w)), (1, .int (nI cc))]) hx hb dd_SR_rowsFor_1 rfl hl (by decide) rfl (fun ls hl => ?_)
  have lp_1 : ∀ (n1 : Nat) (i : Nat) (H : Heap) (locs : List Loc) (ls : Array Slot), 91 - i = n1 → (3 ≤ i) → (i ≤ rr) → lv_has ls 3 [(0, .int (nI w)), (1, .int (nI cc)), (2, .int (nI i))] → va_P g.1 vwCl [] H → va_D A [] → va_S A s.heap H locs → W p l e { frames := 0, cells := 0, slots := 0, locals := 0 } s m args below meth c H locs 0 0 Q (F0 m 2 ls []) := by
    intro n1
    induction n1 using Nat.strongRecOn with
    | _ n1 ih1 =>
    intro i H locs ls hmn1 qi qi2 hl hP hD hS
    have q91 : rr ≤ 91 := by rw [qr]; exact xr_hi w cc
    have qic : i * cc ≤ 91 * 30 := Nat.mul_le_mul (by omega) qc2
    refine lv_iload_n hx hb dd_SR_rowsFor_2 rfl (lv_at hl 2 rfl) ?_
    refine lv_bipush (v := nI 90) hx hb dd_SR_rowsFor_3 (by decide) ?_
    refine xb_gt (tgt := 21) hx hb (by omega) (by omega) dd_SR_rowsFor_5 rfl (fun qa9 => ?_) (fun qa9 => ?_)
    · refine lv_iload_n hx hb dd_SR_rowsFor_21 rfl (lv_at hl 2 rfl) ?_
      exact xr_i hx hb hr hlk hQ hP hD hS () (xr_end qc qr qi qi2 (by first | exact Or.inl qa9 | exact Or.inr qb9)) [] (by decide) rfl rfl (Nat.le_of_ble_eq_true rfl) (Nat.le_of_ble_eq_true rfl) dd_SR_rowsFor_22
    · refine lv_iload_n hx hb dd_SR_rowsFor_8 rfl (lv_at hl 2 rfl) ?_
      refine lv_iload_n hx hb dd_SR_rowsFor_9 rfl (lv_at hl 1 rfl) ?_
      refine xi_imul hx hb dd_SR_rowsFor_10 ?_
      refine lv_iload_n hx hb dd_SR_rowsFor_11 rfl (lv_at hl 0 rfl) ?_
      refine xb_ge (tgt := 21) hx hb (by omega) (by omega) dd_SR_rowsFor_12 rfl (fun qb9 => ?_) (fun qb9 => ?_)
      · refine lv_iload_n hx hb dd_SR_rowsFor_21 rfl (lv_at hl 2 rfl) ?_
        exact xr_i hx hb hr hlk hQ hP hD hS () (xr_end qc qr qi qi2 (by first | exact Or.inl qa9 | exact Or.inr qb9)) [] (by decide) rfl rfl (Nat.le_of_ble_eq_true rfl) (Nat.le_of_ble_eq_true rfl) dd_SR_rowsFor_22
      · refine lv_iinc (k := 2) (lv' := [(2, .int (nI (i + 1))), (0, .int (nI w)), (1, .int (nI cc))]) hx hb dd_SR_rowsFor_15 hl rfl (xi_inc _) (by decide) rfl (fun ls hl => ?_)
        refine lv_goto (tgt := 2) hx hb dd_SR_rowsFor_18 rfl ?_
        exact ih1 _ (by omega) (i + 1) H locs ls rfl (by omega) (xr_up qc qr qb9 qa9) (lv_sub hl [1, 2, 0] rfl) (hP.sub [] rfl) (hD.sub [] (by decide) rfl) hS
  exact lp_1 _ 3 H locs ls rfl (by omega) (by rw [qr]; exact xr_lo w cc) (lv_sub hl [1, 2, 0] rfl) (hP.sub [] rfl) (hD.sub [] (by decide) rfl) hS

set_option maxHeartbeats 4000000 in
set_option maxRecDepth 100000 in
theorem ct_ck_init (l : Launch) (g : xg_G) (h : Nat) : kc_V l yy_CK_init cd_CK_init 1 { frames := 1, cells := 1, slots := 513, locals := 12 } g [.ref h] [oc_o h 2 [.null]] (S := Nat) (fun _ => True) (fun u0 => [oc_o h 2 [.ref u0], oc_i g u0 513 (fun _ => 0)]) := by
  refine kc_Vof (by decide) (Nat.le_of_ble_eq_true rfl) ?_
  intro p e s m args below meth c A ls Q H locs hQ hB hP hS
  obtain ⟨hx, hb, hr, hlk, hin, hml, hown, hts, hA, hK, hD, hE, hl⟩ := hB
  have hF : xf_F g p m c cd_CK_init 1 s args "StackedRows$Checks" A := ⟨⟨hx, hb, hml, hown, hts⟩, hE, hK, hA⟩
  have hl : lv_has ls 1 [(0, .ref h)] := hl
  have hown : s.vm.findClass "StackedRows$Checks" = some m.cls := hown
  refine lv_aload_n hx hb dd_CK_init_0 rfl (lv_at hl 0 rfl) ?_
  refine oi_CK_3 hx hb hts hown hml hl.1 (Nat.le_of_ble_eq_true rfl) (Nat.le_of_ble_eq_true rfl) dd_CK_init_1 ?_
  refine lv_aload_n hx hb dd_CK_init_4 rfl (lv_at hl 0 rfl) ?_
  refine lv_sipush (v := nI 513) hx hb dd_CK_init_5 (by decide) ?_
  refine xa_newI (k1 := 1) (k2 := 513) hx hb (hts _ wa_int) hK hP hD hS hA (by decide) rfl rfl (Nat.le_of_ble_eq_true rfl) (Nat.le_of_ble_eq_true rfl) dd_CK_init_8 (fun q_1 H hP hD hS => ?_)
  have hP : va_P g.1 vwCl [oc_o h 2 [.null], oc_i g q_1 513 (fun _ => 0)] H := hP
  have hD : va_D A [oc_o h 2 [.null], oc_i g q_1 513 (fun _ => 0)] := hD
  refine pf_CK_9 hin hx hb hts hown hK hP hD hS 0 rfl rfl rfl (Nat.le_of_ble_eq_true rfl) dd_CK_init_10 (fun H locs hP hD hS => ?_)
  have hP : va_P g.1 vwCl [oc_o h 2 [.ref q_1], oc_i g q_1 513 (fun _ => 0)] H := hP
  have hD : va_D A [oc_o h 2 [.ref q_1], oc_i g q_1 513 (fun _ => 0)] := hD
  exact xr_v hx hb hr hlk hQ hP hD hS (q_1) trivial [0, 1] (by decide) rfl (Nat.le_of_ble_eq_true rfl) (Nat.le_of_ble_eq_true rfl) dd_CK_init_13

set_option maxHeartbeats 4000000 in
set_option maxRecDepth 100000 in
theorem ct_ck_mul (l : Launch) (g : xg_G) (h : Nat) (q : Nat) (K : Nat) (f : Nat → Int32) (qK : 2 ≤ K ∧ K ≤ 512) : kc_V l yy_CK_multiplyFactors cd_CK_multiplyFactors 6 { frames := 1, cells := 0, slots := 0, locals := 20 } g [.ref h, .int (nI K)] [oc_o h 2 [.ref q], oc_i g q 513 f] (S := (Nat → Int32)) (fun _ => True) (fun u0 => [oc_o h 2 [.ref q], oc_i g q 513 u0]) := by
  refine kc_Vof (by decide) (Nat.le_of_ble_eq_true rfl) ?_
  intro p e s m args below meth c A ls Q H locs hQ hB hP hS
  obtain ⟨hx, hb, hr, hlk, hin, hml, hown, hts, hA, hK, hD, hE, hl⟩ := hB
  have hF : xf_F g p m c cd_CK_multiplyFactors 6 s args "StackedRows$Checks" A := ⟨⟨hx, hb, hml, hown, hts⟩, hE, hK, hA⟩
  have hl : lv_has ls 6 [(0, .ref h), (1, .int (nI K))] := hl
  have hown : s.vm.findClass "StackedRows$Checks" = some m.cls := hown
  refine lv_aload_n hx hb dd_CK_multiplyFactors_0 rfl (lv_at hl 0 rfl) ?_
  refine gf_CK_9 hx hb hts hown hK hP 0 rfl rfl dd_CK_multiplyFactors_1 ?_
  refine lv_iconst (v := nI 0) hx hb dd_CK_multiplyFactors_4 (by decide) ?_
  refine lv_iconst (v := nI 1) hx hb dd_CK_multiplyFactors_5 (by decide) ?_
  refine xa_st hx hb hK hP hD hS 1 rfl (j := 0) (by omega) (by omega) dd_CK_multiplyFactors_6 (fun f_1 H locs hP hD hS => ?_)
  have hP : va_P g.1 vwCl [oc_o h 2 [.ref q], oc_i g q 513 f_1] H := hP
  have hD : va_D A [oc_o h 2 [.ref q], oc_i g q 513 f_1] := hD
  refine lv_iconst (v := nI 1) hx hb dd_CK_multiplyFactors_7 (by decide) ?_
  refine lv_istore_n (lv' := [(2, .int (nI 1)), (0, .ref h), (1, .int (nI K))]) hx hb dd_CK_multiplyFactors_8 rfl hl (by decide) rfl (fun ls hl => ?_)
  refine lv_iconst (v := nI 1) hx hb dd_CK_multiplyFactors_9 (by decide) ?_
  refine lv_istore_n (lv' := [(3, .int (nI 1)), (2, .int (nI 1)), (0, .ref h), (1, .int (nI K))]) hx hb dd_CK_multiplyFactors_10 rfl hl (by decide) rfl (fun ls hl => ?_)
  have lp_2 : ∀ (n2 : Nat) (d : Nat) (z : Int32) (f : Nat → Int32) (H : Heap) (locs : List Loc) (ls : Array Slot), K + 1 - d = n2 → (1 ≤ d) → (d ≤ K + 1) → lv_has ls 6 [(0, .ref h), (1, .int (nI K)), (2, .int z), (3, .int (nI d))] → va_P g.1 vwCl [oc_o h 2 [.ref q], oc_i g q 513 f] H → va_D A [oc_o h 2 [.ref q], oc_i g q 513 f] → va_S A s.heap H locs → W p l e { frames := 1, cells := 0, slots := 0, locals := 20 } s m args below meth c H locs 0 0 Q (F0 m 11 ls []) := by
    intro n2
    induction n2 using Nat.strongRecOn with
    | _ n2 ih2 =>
    intro d z f H locs ls hmn2 qd qd2 hl hP hD hS
    refine lv_iload_n hx hb dd_CK_multiplyFactors_11 rfl (lv_at hl 3 rfl) ?_
    refine lv_iload_n hx hb dd_CK_multiplyFactors_12 rfl (lv_at hl 1 rfl) ?_
    refine xb_gt (tgt := 109) hx hb (by omega) (by omega) dd_CK_multiplyFactors_13 rfl (fun h_3 => ?_) (fun h_3 => ?_)
    · exact xr_v hx hb hr hlk hQ hP hD hS (f) trivial [0, 1] (by decide) rfl (Nat.le_of_ble_eq_true rfl) (Nat.le_of_ble_eq_true rfl) dd_CK_multiplyFactors_109
    · refine lv_iload_n hx hb dd_CK_multiplyFactors_16 rfl (lv_at hl 2 rfl) ?_
      refine lv_iconst (v := nI 3) hx hb dd_CK_multiplyFactors_17 (by decide) ?_
      refine lv_imul hx hb dd_CK_multiplyFactors_18 (lv_topi (fun x_4 _ => ?_))
      refine lv_sipush (v := nI 929) hx hb dd_CK_multiplyFactors_19 (by decide) ?_
      refine xi_remR hx hb (by decide) dd_CK_multiplyFactors_22 (fun x_5 => ?_)
      refine lv_istore_n (lv' := [(2, .int x_5), (0, .ref h), (1, .int (nI K)), (3, .int (nI d))]) hx hb dd_CK_multiplyFactors_23 rfl hl (by decide) rfl (fun ls hl => ?_)
      refine lv_iload_n hx hb dd_CK_multiplyFactors_24 rfl (lv_at hl 0 rfl) ?_
      refine xc_SNi (wr := [oc_o h 2 [.ref q], oc_i g q 513 f]) (k1 := 0) (k2 := 0) (As := [.int x_5]) (rest := []) (k := 1) hF hP hD hS (ct_neg l g x_5) wc_SR_negative wn_SR hE.2.2.2.1 wz_SR_negative (by decide) [] [0, 1] ⟨rfl, rfl, by decide, by decide, by decide⟩ ⟨⟨Nat.le_of_ble_eq_true rfl, Nat.le_of_ble_eq_true rfl⟩, rfl, rfl, Nat.le_of_ble_eq_true rfl, Nat.le_of_ble_eq_true rfl⟩ rfl hl.1 rfl (Nat.le_of_ble_eq_true rfl) dd_CK_multiplyFactors_25 (fun r_6 u H locs hp hP hD hS => ?_)
      have hP : va_P g.1 vwCl [oc_o h 2 [.ref q], oc_i g q 513 f] H := hP
      have hD : va_D A [oc_o h 2 [.ref q], oc_i g q 513 f] := hD
      refine lv_istore (lv' := [(4, .int r_6), (2, .int x_5), (0, .ref h), (1, .int (nI K)), (3, .int (nI d))]) hx hb dd_CK_multiplyFactors_28 hl (by decide) rfl (fun ls hl => ?_)
      refine lv_aload_n hx hb dd_CK_multiplyFactors_30 rfl (lv_at hl 2 rfl) ?_
      refine gf_CK_9 hx hb hts hown hK hP 0 rfl rfl dd_CK_multiplyFactors_31 ?_
      refine lv_iload_n hx hb dd_CK_multiplyFactors_34 rfl (lv_at hl 4 rfl) ?_
      refine lv_iconst (v := nI 1) hx hb dd_CK_multiplyFactors_35 (by decide) ?_
      refine xa_st hx hb hK hP hD hS 1 rfl (j := d) (by omega) (by omega) dd_CK_multiplyFactors_36 (fun f_7 H locs hP hD hS => ?_)
      have hP : va_P g.1 vwCl [oc_o h 2 [.ref q], oc_i g q 513 f_7] H := hP
      have hD : va_D A [oc_o h 2 [.ref q], oc_i g q 513 f_7] := hD
      refine lv_iload_n hx hb dd_CK_multiplyFactors_37 rfl (lv_at hl 4 rfl) ?_
      refine lv_iconst (v := nI 1) hx hb dd_CK_multiplyFactors_38 (by decide) ?_
      refine xi_isub hx hb (by omega) dd_CK_multiplyFactors_39 ?_
      refine lv_istore (lv' := [(5, .int (nI (d - 1))), (4, .int r_6), (2, .int x_5), (0, .ref h), (1, .int (nI K)), (3, .int (nI d))]) hx hb dd_CK_multiplyFactors_40 hl (by decide) rfl (fun ls hl => ?_)
      have lp_8 : ∀ (n8 : Nat) (i : Nat) (f : Nat → Int32) (H : Heap) (locs : List Loc) (ls : Array Slot), i = n8 → (i < d) → lv_has ls 6 [(0, .ref h), (1, .int (nI K)), (2, .int x_5), (3, .int (nI d)), (4, .int r_6), (5, .int (nI i))] → va_P g.1 vwCl [oc_o h 2 [.ref q], oc_i g q 513 f] H → va_D A [oc_o h 2 [.ref q], oc_i g q 513 f] → va_S A s.heap H locs → W p l e { frames := 1, cells := 0, slots := 0, locals := 20 } s m args below meth c H locs 0 0 Q (F0 m 42 ls []) := by
        intro n8
        induction n8 using Nat.strongRecOn with
        | _ n8 ih8 =>
        intro i f H locs ls hmn8 qi hl hP hD hS
        refine lv_iload hx hb dd_CK_multiplyFactors_42 (lv_at hl 5 rfl) ?_
        refine xb_zle (tgt := 84) hx hb (by omega) dd_CK_multiplyFactors_44 rfl (fun h_9 => ?_) (fun h_9 => ?_)
        · refine lv_aload_n hx hb dd_CK_multiplyFactors_84 rfl (lv_at hl 0 rfl) ?_
          refine gf_CK_9 hx hb hts hown hK hP 0 rfl rfl dd_CK_multiplyFactors_85 ?_
          refine lv_iconst (v := nI 0) hx hb dd_CK_multiplyFactors_88 (by decide) ?_
          refine lv_iload hx hb dd_CK_multiplyFactors_89 (lv_at hl 4 rfl) ?_
          refine lv_aload_n hx hb dd_CK_multiplyFactors_91 rfl (lv_at hl 0 rfl) ?_
          refine gf_CK_9 hx hb hts hown hK hP 0 rfl rfl dd_CK_multiplyFactors_92 ?_
          refine lv_iconst (v := nI 0) hx hb dd_CK_multiplyFactors_95 (by decide) ?_
          refine xa_ld hx hb hK hP 1 rfl (j := 0) (by omega) (by omega) dd_CK_multiplyFactors_96 ?_
          refine lv_imul hx hb dd_CK_multiplyFactors_97 (lv_topi (fun x_10 _ => ?_))
          refine lv_sipush (v := nI 929) hx hb dd_CK_multiplyFactors_98 (by decide) ?_
          refine xi_remR hx hb (by decide) dd_CK_multiplyFactors_101 (fun x_11 => ?_)
          refine xa_st hx hb hK hP hD hS 1 rfl (j := 0) (by omega) (by omega) dd_CK_multiplyFactors_102 (fun f_12 H locs hP hD hS => ?_)
          have hP : va_P g.1 vwCl [oc_o h 2 [.ref q], oc_i g q 513 f_12] H := hP
          have hD : va_D A [oc_o h 2 [.ref q], oc_i g q 513 f_12] := hD
          refine lv_iinc (k := 3) (lv' := [(3, .int (nI (d + 1))), (0, .ref h), (1, .int (nI K)), (2, .int x_5), (4, .int r_6), (5, .int (nI i))]) hx hb dd_CK_multiplyFactors_103 hl rfl (xi_inc _) (by decide) rfl (fun ls hl => ?_)
          refine lv_goto (tgt := 11) hx hb dd_CK_multiplyFactors_106 rfl ?_
          exact ih2 _ (by omega) (d + 1) x_5 f_12 H locs ls rfl (by omega) (by omega) (lv_sub hl [1, 2, 3, 0] rfl) (hP.sub [0, 1] rfl) (hD.sub [0, 1] (by decide) rfl) hS
        · refine lv_aload_n hx hb dd_CK_multiplyFactors_47 rfl (lv_at hl 0 rfl) ?_
          refine gf_CK_9 hx hb hts hown hK hP 0 rfl rfl dd_CK_multiplyFactors_48 ?_
          refine lv_iload hx hb dd_CK_multiplyFactors_51 (lv_at hl 5 rfl) ?_
          refine lv_aload_n hx hb dd_CK_multiplyFactors_53 rfl (lv_at hl 0 rfl) ?_
          refine gf_CK_9 hx hb hts hown hK hP 0 rfl rfl dd_CK_multiplyFactors_54 ?_
          refine lv_iload hx hb dd_CK_multiplyFactors_57 (lv_at hl 5 rfl) ?_
          refine lv_iconst (v := nI 1) hx hb dd_CK_multiplyFactors_59 (by decide) ?_
          refine xi_isub hx hb (by omega) dd_CK_multiplyFactors_60 ?_
          refine xa_ld hx hb hK hP 1 rfl (j := i - 1) (by omega) (by omega) dd_CK_multiplyFactors_61 ?_
          refine lv_iload hx hb dd_CK_multiplyFactors_62 (lv_at hl 4 rfl) ?_
          refine lv_aload_n hx hb dd_CK_multiplyFactors_64 rfl (lv_at hl 0 rfl) ?_
          refine gf_CK_9 hx hb hts hown hK hP 0 rfl rfl dd_CK_multiplyFactors_65 ?_
          refine lv_iload hx hb dd_CK_multiplyFactors_68 (lv_at hl 5 rfl) ?_
          refine xa_ld hx hb hK hP 1 rfl (j := i) (by omega) (by omega) dd_CK_multiplyFactors_70 ?_
          refine lv_imul hx hb dd_CK_multiplyFactors_71 (lv_topi (fun x_13 _ => ?_))
          refine lv_iadd hx hb dd_CK_multiplyFactors_72 (lv_topi (fun x_14 _ => ?_))
          refine lv_sipush (v := nI 929) hx hb dd_CK_multiplyFactors_73 (by decide) ?_
          refine xi_remR hx hb (by decide) dd_CK_multiplyFactors_76 (fun x_15 => ?_)
          refine xa_st hx hb hK hP hD hS 1 rfl (j := i) (by omega) (by omega) dd_CK_multiplyFactors_77 (fun f_16 H locs hP hD hS => ?_)
          have hP : va_P g.1 vwCl [oc_o h 2 [.ref q], oc_i g q 513 f_16] H := hP
          have hD : va_D A [oc_o h 2 [.ref q], oc_i g q 513 f_16] := hD
          refine lv_iinc (k := 5) (lv' := [(5, .int (nI (i - 1))), (0, .ref h), (1, .int (nI K)), (2, .int x_5), (3, .int (nI d)), (4, .int r_6)]) hx hb dd_CK_multiplyFactors_78 hl rfl (xi_dec (by omega)) (by decide) rfl (fun ls hl => ?_)
          refine lv_goto (tgt := 42) hx hb dd_CK_multiplyFactors_81 rfl ?_
          exact ih8 _ (by omega) (i - 1) f_16 H locs ls rfl (by omega) (lv_sub hl [1, 2, 3, 4, 5, 0] rfl) (hP.sub [0, 1] rfl) (hD.sub [0, 1] (by decide) rfl) hS
      exact lp_8 _ (d - 1) f_7 H locs ls rfl (by omega) (lv_sub hl [3, 4, 2, 5, 1, 0] rfl) (hP.sub [0, 1] rfl) (hD.sub [0, 1] (by decide) rfl) hS
  exact lp_2 _ 1 (nI 1) f_1 H locs ls rfl (by omega) (by omega) (lv_sub hl [2, 3, 1, 0] rfl) (hP.sub [0, 1] rfl) (hD.sub [0, 1] (by decide) rfl) hS

set_option maxHeartbeats 4000000 in
set_option maxRecDepth 100000 in
theorem ct_ck_div (l : Launch) (g : xg_G) (h : Nat) (q : Nat) (rw : Nat) (nn : Nat) (K : Nat) (f : Nat → Int32) (f0 : Nat → Int32) (qK : 2 ≤ K ∧ K ≤ 512) (qn : nn ≤ 928) (qn2 : K + 1 ≤ nn) : kc_V l yy_CK_divide cd_CK_divide 7 { frames := 1, cells := 0, slots := 0, locals := 20 } g [.ref h, .ref rw, .int (nI nn), .int (nI K)] [oc_o h 2 [.ref q], oc_i g q 513 f0, oc_i g rw 928 f] (S := (Nat → Int32)) (fun _ => True) (fun u0 => [oc_o h 2 [.ref q], oc_i g q 513 f0, oc_i g rw 928 u0]) := by
  refine kc_Vof (by decide) (Nat.le_of_ble_eq_true rfl) ?_
  intro p e s m args below meth c A ls Q H locs hQ hB hP hS
  obtain ⟨hx, hb, hr, hlk, hin, hml, hown, hts, hA, hK, hD, hE, hl⟩ := hB
  have hF : xf_F g p m c cd_CK_divide 7 s args "StackedRows$Checks" A := ⟨⟨hx, hb, hml, hown, hts⟩, hE, hK, hA⟩
  have hl : lv_has ls 7 [(0, .ref h), (1, .ref rw), (2, .int (nI nn)), (3, .int (nI K))] := hl
  have hown : s.vm.findClass "StackedRows$Checks" = some m.cls := hown
  refine lv_iload_n hx hb dd_CK_divide_0 rfl (lv_at hl 2 rfl) ?_
  refine lv_iload_n hx hb dd_CK_divide_1 rfl (lv_at hl 3 rfl) ?_
  refine xi_isub hx hb (by omega) dd_CK_divide_2 ?_
  refine lv_istore (lv' := [(4, .int (nI (nn - K))), (0, .ref h), (1, .ref rw), (2, .int (nI nn)), (3, .int (nI K))]) hx hb dd_CK_divide_3 hl (by decide) rfl (fun ls hl => ?_)
  have lp_1 : ∀ (n1 : Nat) (i : Nat) (f : Nat → Int32) (H : Heap) (locs : List Loc) (ls : Array Slot), nn - i = n1 → (i ≤ nn) → lv_has ls 7 [(0, .ref h), (1, .ref rw), (2, .int (nI nn)), (3, .int (nI K)), (4, .int (nI i))] → va_P g.1 vwCl [oc_o h 2 [.ref q], oc_i g q 513 f0, oc_i g rw 928 f] H → va_D A [oc_o h 2 [.ref q], oc_i g q 513 f0, oc_i g rw 928 f] → va_S A s.heap H locs → W p l e { frames := 1, cells := 0, slots := 0, locals := 20 } s m args below meth c H locs 0 0 Q (F0 m 5 ls []) := by
    intro n1
    induction n1 using Nat.strongRecOn with
    | _ n1 ih1 =>
    intro i f H locs ls hmn1 qi hl hP hD hS
    refine lv_iload hx hb dd_CK_divide_5 (lv_at hl 4 rfl) ?_
    refine lv_iload_n hx hb dd_CK_divide_7 rfl (lv_at hl 2 rfl) ?_
    refine xb_ge (tgt := 22) hx hb (by omega) (by omega) dd_CK_divide_8 rfl (fun h_2 => ?_) (fun h_2 => ?_)
    · refine lv_iconst (v := nI 0) hx hb dd_CK_divide_22 (by decide) ?_
      refine lv_istore (lv' := [(4, .int (nI 0)), (0, .ref h), (1, .ref rw), (2, .int (nI nn)), (3, .int (nI K))]) hx hb dd_CK_divide_23 hl (by decide) rfl (fun ls hl => ?_)
      have lp_3 : ∀ (n3 : Nat) (i : Nat) (f : Nat → Int32) (H : Heap) (locs : List Loc) (ls : Array Slot), nn - K - i = n3 → (i ≤ nn - K) → lv_has ls 7 [(0, .ref h), (1, .ref rw), (2, .int (nI nn)), (3, .int (nI K)), (4, .int (nI i))] → va_P g.1 vwCl [oc_o h 2 [.ref q], oc_i g q 513 f0, oc_i g rw 928 f] H → va_D A [oc_o h 2 [.ref q], oc_i g q 513 f0, oc_i g rw 928 f] → va_S A s.heap H locs → W p l e { frames := 1, cells := 0, slots := 0, locals := 20 } s m args below meth c H locs 0 0 Q (F0 m 25 ls []) := by
        intro n3
        induction n3 using Nat.strongRecOn with
        | _ n3 ih3 =>
        intro i f H locs ls hmn3 qi hl hP hD hS
        refine lv_iload hx hb dd_CK_divide_25 (lv_at hl 4 rfl) ?_
        refine lv_iload_n hx hb dd_CK_divide_27 rfl (lv_at hl 2 rfl) ?_
        refine lv_iload_n hx hb dd_CK_divide_28 rfl (lv_at hl 3 rfl) ?_
        refine xi_isub hx hb (by omega) dd_CK_divide_29 ?_
        refine xb_ge (tgt := 121) hx hb (by omega) (by omega) dd_CK_divide_30 rfl (fun h_4 => ?_) (fun h_4 => ?_)
        · exact xr_v hx hb hr hlk hQ hP hD hS (f) trivial [0, 1, 2] (by decide) rfl (Nat.le_of_ble_eq_true rfl) (Nat.le_of_ble_eq_true rfl) dd_CK_divide_121
        · refine lv_aload_n hx hb dd_CK_divide_33 rfl (lv_at hl 1 rfl) ?_
          refine lv_iload hx hb dd_CK_divide_34 (lv_at hl 4 rfl) ?_
          refine xa_ld hx hb hK hP 2 rfl (j := i) (by omega) (by omega) dd_CK_divide_36 ?_
          refine lv_aload_n hx hb dd_CK_divide_37 rfl (lv_at hl 1 rfl) ?_
          refine lv_iload_n hx hb dd_CK_divide_38 rfl (lv_at hl 2 rfl) ?_
          refine lv_iload_n hx hb dd_CK_divide_39 rfl (lv_at hl 3 rfl) ?_
          refine xi_isub hx hb (by omega) dd_CK_divide_40 ?_
          refine xa_ld hx hb hK hP 2 rfl (j := nn - K) (by omega) (by omega) dd_CK_divide_41 ?_
          refine lv_iadd hx hb dd_CK_divide_42 (lv_topi (fun x_5 _ => ?_))
          refine lv_sipush (v := nI 929) hx hb dd_CK_divide_43 (by decide) ?_
          refine xi_remR hx hb (by decide) dd_CK_divide_46 (fun x_6 => ?_)
          refine xc_SNi (wr := [oc_o h 2 [.ref q], oc_i g q 513 f0, oc_i g rw 928 f]) (k1 := 0) (k2 := 0) (As := [.int x_6]) (rest := []) (k := 1) hF hP hD hS (ct_neg l g x_6) wc_SR_negative wn_SR hE.2.2.2.1 wz_SR_negative (by decide) [] [0, 1, 2] ⟨rfl, rfl, by decide, by decide, by decide⟩ ⟨⟨Nat.le_of_ble_eq_true rfl, Nat.le_of_ble_eq_true rfl⟩, rfl, rfl, Nat.le_of_ble_eq_true rfl, Nat.le_of_ble_eq_true rfl⟩ rfl hl.1 rfl (Nat.le_of_ble_eq_true rfl) dd_CK_divide_47 (fun r_7 u H locs hp hP hD hS => ?_)
          have hP : va_P g.1 vwCl [oc_o h 2 [.ref q], oc_i g q 513 f0, oc_i g rw 928 f] H := hP
          have hD : va_D A [oc_o h 2 [.ref q], oc_i g q 513 f0, oc_i g rw 928 f] := hD
          refine lv_istore (lv' := [(5, .int r_7), (0, .ref h), (1, .ref rw), (2, .int (nI nn)), (3, .int (nI K)), (4, .int (nI i))]) hx hb dd_CK_divide_50 hl (by decide) rfl (fun ls hl => ?_)
          refine lv_iload_n hx hb dd_CK_divide_52 rfl (lv_at hl 4 rfl) ?_
          refine lv_iconst (v := nI 1) hx hb dd_CK_divide_53 (by decide) ?_
          refine xi_isub hx hb (by omega) dd_CK_divide_54 ?_
          refine lv_istore (lv' := [(6, .int (nI (K - 1))), (5, .int r_7), (0, .ref h), (1, .ref rw), (2, .int (nI nn)), (3, .int (nI K)), (4, .int (nI i))]) hx hb dd_CK_divide_55 hl (by decide) rfl (fun ls hl => ?_)
          have lp_8 : ∀ (n8 : Nat) (j : Nat) (f : Nat → Int32) (H : Heap) (locs : List Loc) (ls : Array Slot), j = n8 → (j < K) → lv_has ls 7 [(0, .ref h), (1, .ref rw), (2, .int (nI nn)), (3, .int (nI K)), (4, .int (nI i)), (5, .int r_7), (6, .int (nI j))] → va_P g.1 vwCl [oc_o h 2 [.ref q], oc_i g q 513 f0, oc_i g rw 928 f] H → va_D A [oc_o h 2 [.ref q], oc_i g q 513 f0, oc_i g rw 928 f] → va_S A s.heap H locs → W p l e { frames := 1, cells := 0, slots := 0, locals := 20 } s m args below meth c H locs 0 0 Q (F0 m 57 ls []) := by
            intro n8
            induction n8 using Nat.strongRecOn with
            | _ n8 ih8 =>
            intro j f H locs ls hmn8 qj hl hP hD hS
            refine lv_iload hx hb dd_CK_divide_57 (lv_at hl 6 rfl) ?_
            refine xb_zle (tgt := 97) hx hb (by omega) dd_CK_divide_59 rfl (fun h_9 => ?_) (fun h_9 => ?_)
            · refine lv_aload_n hx hb dd_CK_divide_97 rfl (lv_at hl 1 rfl) ?_
              refine lv_iload_n hx hb dd_CK_divide_98 rfl (lv_at hl 2 rfl) ?_
              refine lv_iconst (v := nI 1) hx hb dd_CK_divide_99 (by decide) ?_
              refine xi_isub hx hb (by omega) dd_CK_divide_100 ?_
              refine lv_iload hx hb dd_CK_divide_101 (lv_at hl 5 rfl) ?_
              refine lv_aload_n hx hb dd_CK_divide_103 rfl (lv_at hl 0 rfl) ?_
              refine gf_CK_9 hx hb hts hown hK hP 0 rfl rfl dd_CK_divide_104 ?_
              refine lv_iconst (v := nI 0) hx hb dd_CK_divide_107 (by decide) ?_
              refine xa_ld hx hb hK hP 1 rfl (j := 0) (by omega) (by omega) dd_CK_divide_108 ?_
              refine lv_imul hx hb dd_CK_divide_109 (lv_topi (fun x_10 _ => ?_))
              refine lv_sipush (v := nI 929) hx hb dd_CK_divide_110 (by decide) ?_
              refine xi_remR hx hb (by decide) dd_CK_divide_113 (fun x_11 => ?_)
              refine xa_st hx hb hK hP hD hS 2 rfl (j := nn - 1) (by omega) (by omega) dd_CK_divide_114 (fun f_12 H locs hP hD hS => ?_)
              have hP : va_P g.1 vwCl [oc_o h 2 [.ref q], oc_i g q 513 f0, oc_i g rw 928 f_12] H := hP
              have hD : va_D A [oc_o h 2 [.ref q], oc_i g q 513 f0, oc_i g rw 928 f_12] := hD
              refine lv_iinc (k := 4) (lv' := [(4, .int (nI (i + 1))), (0, .ref h), (1, .ref rw), (2, .int (nI nn)), (3, .int (nI K)), (5, .int r_7), (6, .int (nI j))]) hx hb dd_CK_divide_115 hl rfl (xi_inc _) (by decide) rfl (fun ls hl => ?_)
              refine lv_goto (tgt := 25) hx hb dd_CK_divide_118 rfl ?_
              exact ih3 _ (by omega) (i + 1) f_12 H locs ls rfl (by omega) (lv_sub hl [1, 2, 3, 4, 0] rfl) (hP.sub [0, 1, 2] rfl) (hD.sub [0, 1, 2] (by decide) rfl) hS
            · refine lv_aload_n hx hb dd_CK_divide_62 rfl (lv_at hl 1 rfl) ?_
              refine lv_iload_n hx hb dd_CK_divide_63 rfl (lv_at hl 2 rfl) ?_
              refine lv_iconst (v := nI 1) hx hb dd_CK_divide_64 (by decide) ?_
              refine xi_isub hx hb (by omega) dd_CK_divide_65 ?_
              refine lv_iload hx hb dd_CK_divide_66 (lv_at hl 6 rfl) ?_
              refine xi_isub hx hb (by omega) dd_CK_divide_68 ?_
              refine lv_aload_n hx hb dd_CK_divide_69 rfl (lv_at hl 1 rfl) ?_
              refine lv_iload_n hx hb dd_CK_divide_70 rfl (lv_at hl 2 rfl) ?_
              refine lv_iload hx hb dd_CK_divide_71 (lv_at hl 6 rfl) ?_
              refine xi_isub hx hb (by omega) dd_CK_divide_73 ?_
              refine xa_ld hx hb hK hP 2 rfl (j := nn - j) (by omega) (by omega) dd_CK_divide_74 ?_
              refine lv_iload hx hb dd_CK_divide_75 (lv_at hl 5 rfl) ?_
              refine lv_aload_n hx hb dd_CK_divide_77 rfl (lv_at hl 0 rfl) ?_
              refine gf_CK_9 hx hb hts hown hK hP 0 rfl rfl dd_CK_divide_78 ?_
              refine lv_iload hx hb dd_CK_divide_81 (lv_at hl 6 rfl) ?_
              refine xa_ld hx hb hK hP 1 rfl (j := j) (by omega) (by omega) dd_CK_divide_83 ?_
              refine lv_imul hx hb dd_CK_divide_84 (lv_topi (fun x_13 _ => ?_))
              refine lv_iadd hx hb dd_CK_divide_85 (lv_topi (fun x_14 _ => ?_))
              refine lv_sipush (v := nI 929) hx hb dd_CK_divide_86 (by decide) ?_
              refine xi_remR hx hb (by decide) dd_CK_divide_89 (fun x_15 => ?_)
              refine xa_st hx hb hK hP hD hS 2 rfl (j := (nn - 1) - j) (by omega) (by omega) dd_CK_divide_90 (fun f_16 H locs hP hD hS => ?_)
              have hP : va_P g.1 vwCl [oc_o h 2 [.ref q], oc_i g q 513 f0, oc_i g rw 928 f_16] H := hP
              have hD : va_D A [oc_o h 2 [.ref q], oc_i g q 513 f0, oc_i g rw 928 f_16] := hD
              refine lv_iinc (k := 6) (lv' := [(6, .int (nI (j - 1))), (0, .ref h), (1, .ref rw), (2, .int (nI nn)), (3, .int (nI K)), (4, .int (nI i)), (5, .int r_7)]) hx hb dd_CK_divide_91 hl rfl (xi_dec (by omega)) (by decide) rfl (fun ls hl => ?_)
              refine lv_goto (tgt := 57) hx hb dd_CK_divide_94 rfl ?_
              exact ih8 _ (by omega) (j - 1) f_16 H locs ls rfl (by omega) (lv_sub hl [1, 2, 3, 4, 5, 6, 0] rfl) (hP.sub [0, 1, 2] rfl) (hD.sub [0, 1, 2] (by decide) rfl) hS
          exact lp_8 _ (K - 1) f H locs ls rfl (by omega) (lv_sub hl [2, 3, 4, 5, 6, 1, 0] rfl) (hP.sub [0, 1, 2] rfl) (hD.sub [0, 1, 2] (by decide) rfl) hS
      exact lp_3 _ 0 f H locs ls rfl (by omega) (lv_sub hl [1, 2, 3, 4, 0] rfl) (hP.sub [0, 1, 2] rfl) (hD.sub [0, 1, 2] (by decide) rfl) hS
    · refine lv_aload_n hx hb dd_CK_divide_11 rfl (lv_at hl 1 rfl) ?_
      refine lv_iload hx hb dd_CK_divide_12 (lv_at hl 4 rfl) ?_
      refine lv_iconst (v := nI 0) hx hb dd_CK_divide_14 (by decide) ?_
      refine xa_st hx hb hK hP hD hS 2 rfl (j := i) (by omega) (by omega) dd_CK_divide_15 (fun f_17 H locs hP hD hS => ?_)
      have hP : va_P g.1 vwCl [oc_o h 2 [.ref q], oc_i g q 513 f0, oc_i g rw 928 f_17] H := hP
      have hD : va_D A [oc_o h 2 [.ref q], oc_i g q 513 f0, oc_i g rw 928 f_17] := hD
      refine lv_iinc (k := 4) (lv' := [(4, .int (nI (i + 1))), (0, .ref h), (1, .ref rw), (2, .int (nI nn)), (3, .int (nI K))]) hx hb dd_CK_divide_16 hl rfl (xi_inc _) (by decide) rfl (fun ls hl => ?_)
      refine lv_goto (tgt := 5) hx hb dd_CK_divide_19 rfl ?_
      exact ih1 _ (by omega) (i + 1) f_17 H locs ls rfl (by omega) (lv_sub hl [1, 2, 3, 4, 0] rfl) (hP.sub [0, 1, 2] rfl) (hD.sub [0, 1, 2] (by decide) rfl) hS
  exact lp_1 _ (nn - K) f H locs ls rfl (by omega) (lv_sub hl [1, 2, 3, 4, 0] rfl) (hP.sub [0, 1, 2] rfl) (hD.sub [0, 1, 2] (by decide) rfl) hS

set_option maxHeartbeats 4000000 in
set_option maxRecDepth 100000 in
theorem ct_ck_write (l : Launch) (g : xg_G) (h : Nat) (q : Nat) (rw : Nat) (nn : Nat) (K : Nat) (f : Nat → Int32) (f0 : Nat → Int32) (qK : 2 ≤ K ∧ K ≤ 512) (qn : nn ≤ 928) (qn2 : K + 1 ≤ nn) : kc_V l yy_CK_write cd_CK_write 5 { frames := 2, cells := 0, slots := 0, locals := 46 } g [.ref h, .ref rw, .int (nI nn), .int (nI K)] [oc_o h 2 [.ref q], oc_i g q 513 f0, oc_i g rw 928 f] (S := (Nat → Int32) × (Nat → Int32)) (fun _ => True) (fun u0 => [oc_o h 2 [.ref q], oc_i g q 513 u0.2, oc_i g rw 928 u0.1]) := by
  refine kc_Vof (by decide) (Nat.le_of_ble_eq_true rfl) ?_
  intro p e s m args below meth c A ls Q H locs hQ hB hP hS
  obtain ⟨hx, hb, hr, hlk, hin, hml, hown, hts, hA, hK, hD, hE, hl⟩ := hB
  have hF : xf_F g p m c cd_CK_write 5 s args "StackedRows$Checks" A := ⟨⟨hx, hb, hml, hown, hts⟩, hE, hK, hA⟩
  have hl : lv_has ls 5 [(0, .ref h), (1, .ref rw), (2, .int (nI nn)), (3, .int (nI K))] := hl
  have hown : s.vm.findClass "StackedRows$Checks" = some m.cls := hown
  refine lv_aload_n hx hb dd_CK_write_0 rfl (lv_at hl 0 rfl) ?_
  refine lv_iload_n hx hb dd_CK_write_1 rfl (lv_at hl 3 rfl) ?_
  refine xc_Vv (wr := [oc_i g rw 928 f]) (k1 := 0) (k2 := 0) (As := [.int (nI K)]) (rest := []) (k := 1) hF hP hD hS (ct_ck_mul l g h q K f0 (by omega)) (xt_V ml_CK_15 wi_CK_multiplyFactors wx_CK_multiplyFactors wn_CK wc_CK_multiplyFactors) (by decide) 0 rfl rfl rfl [0, 1] [2] ⟨rfl, rfl, by decide, by decide, by decide⟩ ⟨⟨Nat.le_of_ble_eq_true rfl, Nat.le_of_ble_eq_true rfl⟩, rfl, rfl, Nat.le_of_ble_eq_true rfl, Nat.le_of_ble_eq_true rfl⟩ rfl hl.1 rfl (Nat.le_of_ble_eq_true rfl) dd_CK_write_2 (fun f_1 H locs hp hP hD hS => ?_)
  have hP : va_P g.1 vwCl [oc_i g rw 928 f, oc_o h 2 [.ref q], oc_i g q 513 f_1] H := hP
  have hD : va_D A [oc_i g rw 928 f, oc_o h 2 [.ref q], oc_i g q 513 f_1] := hD
  refine lv_aload_n hx hb dd_CK_write_5 rfl (lv_at hl 0 rfl) ?_
  refine lv_aload_n hx hb dd_CK_write_6 rfl (lv_at hl 1 rfl) ?_
  refine lv_iload_n hx hb dd_CK_write_7 rfl (lv_at hl 2 rfl) ?_
  refine lv_iload_n hx hb dd_CK_write_8 rfl (lv_at hl 3 rfl) ?_
  refine xc_Vv (wr := []) (k1 := 0) (k2 := 0) (As := [.ref rw, .int (nI nn), .int (nI K)]) (rest := []) (k := 3) hF hP hD hS (ct_ck_div l g h q rw nn K f f_1 (by omega) (by omega) (by omega)) (xt_V ml_CK_19 wi_CK_divide wx_CK_divide wn_CK wc_CK_divide) (by decide) 1 rfl rfl rfl [1, 2, 0] [] ⟨rfl, rfl, by decide, by decide, by decide⟩ ⟨⟨Nat.le_of_ble_eq_true rfl, Nat.le_of_ble_eq_true rfl⟩, rfl, rfl, Nat.le_of_ble_eq_true rfl, Nat.le_of_ble_eq_true rfl⟩ rfl hl.1 rfl (Nat.le_of_ble_eq_true rfl) dd_CK_write_9 (fun f_3 H locs hp hP hD hS => ?_)
  have hP : va_P g.1 vwCl [oc_o h 2 [.ref q], oc_i g q 513 f_1, oc_i g rw 928 f_3] H := hP
  have hD : va_D A [oc_o h 2 [.ref q], oc_i g q 513 f_1, oc_i g rw 928 f_3] := hD
  refine lv_iload_n hx hb dd_CK_write_12 rfl (lv_at hl 2 rfl) ?_
  refine lv_iload_n hx hb dd_CK_write_13 rfl (lv_at hl 3 rfl) ?_
  refine xi_isub hx hb (by omega) dd_CK_write_14 ?_
  refine lv_istore (lv' := [(4, .int (nI (nn - K))), (0, .ref h), (1, .ref rw), (2, .int (nI nn)), (3, .int (nI K))]) hx hb dd_CK_write_15 hl (by decide) rfl (fun ls hl => ?_)
  have lp_5 : ∀ (n5 : Nat) (i : Nat) (f : Nat → Int32) (f0 : Nat → Int32) (H : Heap) (locs : List Loc) (ls : Array Slot), nn - i = n5 → (i ≤ nn) → lv_has ls 5 [(0, .ref h), (1, .ref rw), (2, .int (nI nn)), (3, .int (nI K)), (4, .int (nI i))] → va_P g.1 vwCl [oc_o h 2 [.ref q], oc_i g q 513 f0, oc_i g rw 928 f] H → va_D A [oc_o h 2 [.ref q], oc_i g q 513 f0, oc_i g rw 928 f] → va_S A s.heap H locs → W p l e { frames := 2, cells := 0, slots := 0, locals := 46 } s m args below meth c H locs 0 0 Q (F0 m 17 ls []) := by
    intro n5
    induction n5 using Nat.strongRecOn with
    | _ n5 ih5 =>
    intro i f f0 H locs ls hmn5 qi hl hP hD hS
    refine lv_iload hx hb dd_CK_write_17 (lv_at hl 4 rfl) ?_
    refine lv_iload_n hx hb dd_CK_write_19 rfl (lv_at hl 2 rfl) ?_
    refine xb_ge (tgt := 40) hx hb (by omega) (by omega) dd_CK_write_20 rfl (fun h_6 => ?_) (fun h_6 => ?_)
    · exact xr_v hx hb hr hlk hQ hP hD hS (f, f0) trivial [0, 1, 2] (by decide) rfl (Nat.le_of_ble_eq_true rfl) (Nat.le_of_ble_eq_true rfl) dd_CK_write_40
    · refine lv_aload_n hx hb dd_CK_write_23 rfl (lv_at hl 1 rfl) ?_
      refine lv_iload hx hb dd_CK_write_24 (lv_at hl 4 rfl) ?_
      refine lv_aload_n hx hb dd_CK_write_26 rfl (lv_at hl 1 rfl) ?_
      refine lv_iload hx hb dd_CK_write_27 (lv_at hl 4 rfl) ?_
      refine xa_ld hx hb hK hP 2 rfl (j := i) (by omega) (by omega) dd_CK_write_29 ?_
      refine xc_SNi (wr := [oc_o h 2 [.ref q], oc_i g q 513 f0, oc_i g rw 928 f]) (k1 := 0) (k2 := 0) (As := [.int (f i)]) (rest := [.int (nI i), .ref rw]) (k := 1) hF hP hD hS (ct_neg l g (f i)) wc_SR_negative wn_SR hE.2.2.2.1 wz_SR_negative (by decide) [] [0, 1, 2] ⟨rfl, rfl, by decide, by decide, by decide⟩ ⟨⟨Nat.le_of_ble_eq_true rfl, Nat.le_of_ble_eq_true rfl⟩, rfl, rfl, Nat.le_of_ble_eq_true rfl, Nat.le_of_ble_eq_true rfl⟩ rfl hl.1 rfl (Nat.le_of_ble_eq_true rfl) dd_CK_write_30 (fun r_7 u H locs hp hP hD hS => ?_)
      have hP : va_P g.1 vwCl [oc_o h 2 [.ref q], oc_i g q 513 f0, oc_i g rw 928 f] H := hP
      have hD : va_D A [oc_o h 2 [.ref q], oc_i g q 513 f0, oc_i g rw 928 f] := hD
      refine xa_st hx hb hK hP hD hS 2 rfl (j := i) (by omega) (by omega) dd_CK_write_33 (fun f_8 H locs hP hD hS => ?_)
      have hP : va_P g.1 vwCl [oc_o h 2 [.ref q], oc_i g q 513 f0, oc_i g rw 928 f_8] H := hP
      have hD : va_D A [oc_o h 2 [.ref q], oc_i g q 513 f0, oc_i g rw 928 f_8] := hD
      refine lv_iinc (k := 4) (lv' := [(4, .int (nI (i + 1))), (0, .ref h), (1, .ref rw), (2, .int (nI nn)), (3, .int (nI K))]) hx hb dd_CK_write_34 hl rfl (xi_inc _) (by decide) rfl (fun ls hl => ?_)
      refine lv_goto (tgt := 17) hx hb dd_CK_write_37 rfl ?_
      exact ih5 _ (by omega) (i + 1) f_8 f0 H locs ls rfl (by omega) (lv_sub hl [1, 2, 3, 4, 0] rfl) (hP.sub [0, 1, 2] rfl) (hD.sub [0, 1, 2] (by decide) rfl) hS
  exact lp_5 _ (nn - K) f_3 f_1 H locs ls rfl (by omega) (lv_sub hl [1, 2, 3, 4, 0] rfl) (hP.sub [0, 1, 2] rfl) (hD.sub [0, 1, 2] (by decide) rfl) hS
end
section
set_option maxHeartbeats 4000000 in
set_option maxRecDepth 100000 in
theorem ct_sr_init (l : Launch) (g : xg_G) (h : Nat) : kc_V l yy_SR_init cd_SR_init 1 { frames := 4, cells := 30, slots := 13449, locals := 81 } g [.ref h] [oc_o h 0 [.null, .null, .null, .null, .null, .null, .null]] (S := Nat × Nat × Nat × Nat × Nat × Nat × Nat × Nat × Nat × Nat × Nat × Nat × Nat × Nat × Nat × Nat × Value) (fun _ => True) (fun u0 => [oc_o h 0 [.ref u0.1, .ref u0.2.1, .ref u0.2.2.1, .ref u0.2.2.2.1, .ref u0.2.2.2.2.1, .ref u0.2.2.2.2.2.1, .ref u0.2.2.2.2.2.2.1], oc_o u0.1 8 [.ref u0.2.2.2.2.2.2.2.1, .int (nI 0)], oc_i g u0.2.2.2.2.2.2.2.1 1200 (fun _ => 0), oc_o u0.2.1 10 [.ref u0.1, .ref u0.2.2.2.2.2.2.2.2.1, .ref u0.2.2.2.2.2.2.2.2.2.1, .ref u0.2.2.2.2.2.2.2.2.2.2.1, .ref u0.2.2.2.2.2.2.2.2.2.2.2.1, .ref u0.2.2.2.2.2.2.2.2.2.2.2.2.1, .int (nI 900), .int (nI 0)], oc_o u0.2.2.2.2.2.2.2.2.1 3 [.ref u0.2.2.2.2.2.2.2.2.2.2.2.2.2.1, .int (nI 0)], oc_o u0.2.2.2.2.2.2.2.2.2.1 9 [.ref u0.2.2.2.2.2.2.2.2.1, u0.2.2.2.2.2.2.2.2.2.2.2.2.2.2.2.2, .int (-1)], oc_i g u0.2.2.2.2.2.2.2.2.2.2.2.1 1201 (fun _ => 0), oc_i g u0.2.2.2.2.2.2.2.2.2.2.2.2.1 1201 (fun _ => 0), oc_o u0.2.2.1 2 [.ref u0.2.2.2.2.2.2.2.2.2.2.2.2.2.2.1], oc_i g u0.2.2.2.2.2.2.2.2.2.2.2.2.2.2.1 513 (fun _ => 0), oc_o u0.2.2.2.1 7 [.ref u0.2.2.2.2.2.2.2.2.2.2.2.2.2.2.2.1, .int (nI 0), .int (nI 0)], oc_i g u0.2.2.2.2.2.2.2.2.2.2.2.2.2.2.2.1 1108 (fun _ => 0), oc_i g u0.2.2.2.2.2.1 928 (fun _ => 0), oc_i g u0.2.2.2.2.2.2.1 4 (fun _ => 0)]) := by
  refine kc_Vof (by decide) (Nat.le_of_ble_eq_true rfl) ?_
  intro p e s m args below meth c A ls Q H locs hQ hB hP hS
  obtain ⟨hx, hb, hr, hlk, hin, hml, hown, hts, hA, hK, hD, hE, hl⟩ := hB
  have hF : xf_F g p m c cd_SR_init 1 s args "StackedRows" A := ⟨⟨hx, hb, hml, hown, hts⟩, hE, hK, hA⟩
  have hl : lv_has ls 1 [(0, .ref h)] := hl
  have hown : s.vm.findClass "StackedRows" = some m.cls := hown
  refine lv_aload_n hx hb dd_SR_init_0 rfl (lv_at hl 0 rfl) ?_
  refine oi_SR_3 hx hb hts hown hml hl.1 (Nat.le_of_ble_eq_true rfl) (Nat.le_of_ble_eq_true rfl) dd_SR_init_1 ?_
  refine lv_aload_n hx hb dd_SR_init_4 rfl (lv_at hl 0 rfl) ?_
  refine nw_SR_9 (k1 := 1) (k2 := 2) hx hb hts hown hK hP hD hS hA rfl rfl (Nat.le_of_ble_eq_true rfl) (Nat.le_of_ble_eq_true rfl) dd_SR_init_5 (fun q_1 H hP hD hS => ?_)
  have hP : va_P g.1 vwCl [oc_o h 0 [.null, .null, .null, .null, .null, .null, .null], oc_o q_1 8 [.null, .int (nI 0)]] H := hP
  have hD : va_D A [oc_o h 0 [.null, .null, .null, .null, .null, .null, .null], oc_o q_1 8 [.null, .int (nI 0)]] := hD
  refine lv_dup hx hb dd_SR_init_8 rfl ?_
  refine xc_Iv (wr := [oc_o h 0 [.null, .null, .null, .null, .null, .null, .null]]) (k1 := 2) (k2 := 1202) (As := []) (rest := [.ref q_1, .ref h]) (k := 0) hF hP hD hS (ct_tape_init l g q_1) wc_TP_init wn_TP ml_SR_11 wi_TP_init rfl (by decide) [1] [0] ⟨rfl, rfl, by decide, by decide, by decide⟩ ⟨⟨Nat.le_of_ble_eq_true rfl, Nat.le_of_ble_eq_true rfl⟩, rfl, rfl, Nat.le_of_ble_eq_true rfl, Nat.le_of_ble_eq_true rfl⟩ rfl hl.1 rfl (Nat.le_of_ble_eq_true rfl) dd_SR_init_9 (fun q_2 H locs hp hP hD hS => ?_)
  have hP : va_P g.1 vwCl [oc_o h 0 [.null, .null, .null, .null, .null, .null, .null], oc_o q_1 8 [.ref q_2, .int (nI 0)], oc_i g q_2 1200 (fun _ => 0)] H := hP
  have hD : va_D A [oc_o h 0 [.null, .null, .null, .null, .null, .null, .null], oc_o q_1 8 [.ref q_2, .int (nI 0)], oc_i g q_2 1200 (fun _ => 0)] := hD
  refine pf_SR_12 hin hx hb hts hown hK hP hD hS 0 rfl rfl rfl (Nat.le_of_ble_eq_true rfl) dd_SR_init_12 (fun H locs hP hD hS => ?_)
  have hP : va_P g.1 vwCl [oc_o h 0 [.ref q_1, .null, .null, .null, .null, .null, .null], oc_o q_1 8 [.ref q_2, .int (nI 0)], oc_i g q_2 1200 (fun _ => 0)] H := hP
  have hD : va_D A [oc_o h 0 [.ref q_1, .null, .null, .null, .null, .null, .null], oc_o q_1 8 [.ref q_2, .int (nI 0)], oc_i g q_2 1200 (fun _ => 0)] := hD
  refine lv_aload_n hx hb dd_SR_init_15 rfl (lv_at hl 0 rfl) ?_
  refine nw_SR_16 (k1 := 3) (k2 := 1210) hx hb hts hown hK hP hD hS hA rfl rfl (Nat.le_of_ble_eq_true rfl) (Nat.le_of_ble_eq_true rfl) dd_SR_init_16 (fun q_4 H hP hD hS => ?_)
  have hP : va_P g.1 vwCl [oc_o h 0 [.ref q_1, .null, .null, .null, .null, .null, .null], oc_o q_1 8 [.ref q_2, .int (nI 0)], oc_i g q_2 1200 (fun _ => 0), oc_o q_4 10 [.null, .null, .null, .null, .null, .null, .int (nI 0), .int (nI 0)]] H := hP
  have hD : va_D A [oc_o h 0 [.ref q_1, .null, .null, .null, .null, .null, .null], oc_o q_1 8 [.ref q_2, .int (nI 0)], oc_i g q_2 1200 (fun _ => 0), oc_o q_4 10 [.null, .null, .null, .null, .null, .null, .int (nI 0), .int (nI 0)]] := hD
  refine lv_dup hx hb dd_SR_init_19 rfl ?_
  refine lv_aload_n hx hb dd_SR_init_20 rfl (lv_at hl 0 rfl) ?_
  refine gf_SR_12 hx hb hts hown hK hP 0 rfl rfl dd_SR_init_21 ?_
  refine xc_Iv (wr := [oc_o h 0 [.ref q_1, .null, .null, .null, .null, .null, .null], oc_o q_1 8 [.ref q_2, .int (nI 0)], oc_i g q_2 1200 (fun _ => 0)]) (k1 := 10) (k2 := 6034) (As := [.ref q_1]) (rest := [.ref q_4, .ref h]) (k := 1) hF hP hD hS (ct_wr_init l g q_4 q_1) wc_WR_init wn_WR ml_SR_18 wi_WR_init rfl (by decide) [3] [0, 1, 2] ⟨rfl, rfl, by decide, by decide, by decide⟩ ⟨⟨Nat.le_of_ble_eq_true rfl, Nat.le_of_ble_eq_true rfl⟩, rfl, rfl, Nat.le_of_ble_eq_true rfl, Nat.le_of_ble_eq_true rfl⟩ rfl hl.1 rfl (Nat.le_of_ble_eq_true rfl) dd_SR_init_24 (fun u H locs hp hP hD hS => ?_)
  obtain ⟨o_5, x_6, n_7, d_8, e_9, q_10, v_11⟩ := u
  have hP : va_P g.1 vwCl [oc_o h 0 [.ref q_1, .null, .null, .null, .null, .null, .null], oc_o q_1 8 [.ref q_2, .int (nI 0)], oc_i g q_2 1200 (fun _ => 0), oc_o q_4 10 [.ref q_1, .ref o_5, .ref x_6, .ref n_7, .ref d_8, .ref e_9, .int (nI 900), .int (nI 0)], oc_o o_5 3 [.ref q_10, .int (nI 0)], oc_o x_6 9 [.ref o_5, v_11, .int (-1)], oc_i g d_8 1201 (fun _ => 0), oc_i g e_9 1201 (fun _ => 0)] H := hP
  have hD : va_D A [oc_o h 0 [.ref q_1, .null, .null, .null, .null, .null, .null], oc_o q_1 8 [.ref q_2, .int (nI 0)], oc_i g q_2 1200 (fun _ => 0), oc_o q_4 10 [.ref q_1, .ref o_5, .ref x_6, .ref n_7, .ref d_8, .ref e_9, .int (nI 900), .int (nI 0)], oc_o o_5 3 [.ref q_10, .int (nI 0)], oc_o x_6 9 [.ref o_5, v_11, .int (-1)], oc_i g d_8 1201 (fun _ => 0), oc_i g e_9 1201 (fun _ => 0)] := hD
  refine pf_SR_21 hin hx hb hts hown hK hP hD hS 0 rfl rfl rfl (Nat.le_of_ble_eq_true rfl) dd_SR_init_27 (fun H locs hP hD hS => ?_)
  have hP : va_P g.1 vwCl [oc_o h 0 [.ref q_1, .ref q_4, .null, .null, .null, .null, .null], oc_o q_1 8 [.ref q_2, .int (nI 0)], oc_i g q_2 1200 (fun _ => 0), oc_o q_4 10 [.ref q_1, .ref o_5, .ref x_6, .ref n_7, .ref d_8, .ref e_9, .int (nI 900), .int (nI 0)], oc_o o_5 3 [.ref q_10, .int (nI 0)], oc_o x_6 9 [.ref o_5, v_11, .int (-1)], oc_i g d_8 1201 (fun _ => 0), oc_i g e_9 1201 (fun _ => 0)] H := hP
  have hD : va_D A [oc_o h 0 [.ref q_1, .ref q_4, .null, .null, .null, .null, .null], oc_o q_1 8 [.ref q_2, .int (nI 0)], oc_i g q_2 1200 (fun _ => 0), oc_o q_4 10 [.ref q_1, .ref o_5, .ref x_6, .ref n_7, .ref d_8, .ref e_9, .int (nI 900), .int (nI 0)], oc_o o_5 3 [.ref q_10, .int (nI 0)], oc_o x_6 9 [.ref o_5, v_11, .int (-1)], oc_i g d_8 1201 (fun _ => 0), oc_i g e_9 1201 (fun _ => 0)] := hD
  refine lv_aload_n hx hb dd_SR_init_30 rfl (lv_at hl 0 rfl) ?_
  refine nw_SR_25 (k1 := 11) (k2 := 6035) hx hb hts hown hK hP hD hS hA rfl rfl (Nat.le_of_ble_eq_true rfl) (Nat.le_of_ble_eq_true rfl) dd_SR_init_31 (fun q_13 H hP hD hS => ?_)
  have hP : va_P g.1 vwCl [oc_o h 0 [.ref q_1, .ref q_4, .null, .null, .null, .null, .null], oc_o q_1 8 [.ref q_2, .int (nI 0)], oc_i g q_2 1200 (fun _ => 0), oc_o q_4 10 [.ref q_1, .ref o_5, .ref x_6, .ref n_7, .ref d_8, .ref e_9, .int (nI 900), .int (nI 0)], oc_o o_5 3 [.ref q_10, .int (nI 0)], oc_o x_6 9 [.ref o_5, v_11, .int (-1)], oc_i g d_8 1201 (fun _ => 0), oc_i g e_9 1201 (fun _ => 0), oc_o q_13 2 [.null]] H := hP
  have hD : va_D A [oc_o h 0 [.ref q_1, .ref q_4, .null, .null, .null, .null, .null], oc_o q_1 8 [.ref q_2, .int (nI 0)], oc_i g q_2 1200 (fun _ => 0), oc_o q_4 10 [.ref q_1, .ref o_5, .ref x_6, .ref n_7, .ref d_8, .ref e_9, .int (nI 900), .int (nI 0)], oc_o o_5 3 [.ref q_10, .int (nI 0)], oc_o x_6 9 [.ref o_5, v_11, .int (-1)], oc_i g d_8 1201 (fun _ => 0), oc_i g e_9 1201 (fun _ => 0), oc_o q_13 2 [.null]] := hD
  refine lv_dup hx hb dd_SR_init_34 rfl ?_
  refine xc_Iv (wr := [oc_o h 0 [.ref q_1, .ref q_4, .null, .null, .null, .null, .null], oc_o q_1 8 [.ref q_2, .int (nI 0)], oc_i g q_2 1200 (fun _ => 0), oc_o q_4 10 [.ref q_1, .ref o_5, .ref x_6, .ref n_7, .ref d_8, .ref e_9, .int (nI 900), .int (nI 0)], oc_o o_5 3 [.ref q_10, .int (nI 0)], oc_o x_6 9 [.ref o_5, v_11, .int (-1)], oc_i g d_8 1201 (fun _ => 0), oc_i g e_9 1201 (fun _ => 0)]) (k1 := 12) (k2 := 6548) (As := []) (rest := [.ref q_13, .ref h]) (k := 0) hF hP hD hS (ct_ck_init l g q_13) wc_CK_init wn_CK ml_SR_27 wi_CK_init rfl (by decide) [8] [0, 1, 2, 3, 4, 5, 6, 7] ⟨rfl, rfl, by decide, by decide, by decide⟩ ⟨⟨Nat.le_of_ble_eq_true rfl, Nat.le_of_ble_eq_true rfl⟩, rfl, rfl, Nat.le_of_ble_eq_true rfl, Nat.le_of_ble_eq_true rfl⟩ rfl hl.1 rfl (Nat.le_of_ble_eq_true rfl) dd_SR_init_35 (fun q_14 H locs hp hP hD hS => ?_)
  have hP : va_P g.1 vwCl [oc_o h 0 [.ref q_1, .ref q_4, .null, .null, .null, .null, .null], oc_o q_1 8 [.ref q_2, .int (nI 0)], oc_i g q_2 1200 (fun _ => 0), oc_o q_4 10 [.ref q_1, .ref o_5, .ref x_6, .ref n_7, .ref d_8, .ref e_9, .int (nI 900), .int (nI 0)], oc_o o_5 3 [.ref q_10, .int (nI 0)], oc_o x_6 9 [.ref o_5, v_11, .int (-1)], oc_i g d_8 1201 (fun _ => 0), oc_i g e_9 1201 (fun _ => 0), oc_o q_13 2 [.ref q_14], oc_i g q_14 513 (fun _ => 0)] H := hP
  have hD : va_D A [oc_o h 0 [.ref q_1, .ref q_4, .null, .null, .null, .null, .null], oc_o q_1 8 [.ref q_2, .int (nI 0)], oc_i g q_2 1200 (fun _ => 0), oc_o q_4 10 [.ref q_1, .ref o_5, .ref x_6, .ref n_7, .ref d_8, .ref e_9, .int (nI 900), .int (nI 0)], oc_o o_5 3 [.ref q_10, .int (nI 0)], oc_o x_6 9 [.ref o_5, v_11, .int (-1)], oc_i g d_8 1201 (fun _ => 0), oc_i g e_9 1201 (fun _ => 0), oc_o q_13 2 [.ref q_14], oc_i g q_14 513 (fun _ => 0)] := hD
  refine pf_SR_28 hin hx hb hts hown hK hP hD hS 0 rfl rfl rfl (Nat.le_of_ble_eq_true rfl) dd_SR_init_38 (fun H locs hP hD hS => ?_)
  have hP : va_P g.1 vwCl [oc_o h 0 [.ref q_1, .ref q_4, .ref q_13, .null, .null, .null, .null], oc_o q_1 8 [.ref q_2, .int (nI 0)], oc_i g q_2 1200 (fun _ => 0), oc_o q_4 10 [.ref q_1, .ref o_5, .ref x_6, .ref n_7, .ref d_8, .ref e_9, .int (nI 900), .int (nI 0)], oc_o o_5 3 [.ref q_10, .int (nI 0)], oc_o x_6 9 [.ref o_5, v_11, .int (-1)], oc_i g d_8 1201 (fun _ => 0), oc_i g e_9 1201 (fun _ => 0), oc_o q_13 2 [.ref q_14], oc_i g q_14 513 (fun _ => 0)] H := hP
  have hD : va_D A [oc_o h 0 [.ref q_1, .ref q_4, .ref q_13, .null, .null, .null, .null], oc_o q_1 8 [.ref q_2, .int (nI 0)], oc_i g q_2 1200 (fun _ => 0), oc_o q_4 10 [.ref q_1, .ref o_5, .ref x_6, .ref n_7, .ref d_8, .ref e_9, .int (nI 900), .int (nI 0)], oc_o o_5 3 [.ref q_10, .int (nI 0)], oc_o x_6 9 [.ref o_5, v_11, .int (-1)], oc_i g d_8 1201 (fun _ => 0), oc_i g e_9 1201 (fun _ => 0), oc_o q_13 2 [.ref q_14], oc_i g q_14 513 (fun _ => 0)] := hD
  refine lv_aload_n hx hb dd_SR_init_41 rfl (lv_at hl 0 rfl) ?_
  refine nw_SR_32 (k1 := 13) (k2 := 6551) hx hb hts hown hK hP hD hS hA rfl rfl (Nat.le_of_ble_eq_true rfl) (Nat.le_of_ble_eq_true rfl) dd_SR_init_42 (fun q_16 H hP hD hS => ?_)
  have hP : va_P g.1 vwCl [oc_o h 0 [.ref q_1, .ref q_4, .ref q_13, .null, .null, .null, .null], oc_o q_1 8 [.ref q_2, .int (nI 0)], oc_i g q_2 1200 (fun _ => 0), oc_o q_4 10 [.ref q_1, .ref o_5, .ref x_6, .ref n_7, .ref d_8, .ref e_9, .int (nI 900), .int (nI 0)], oc_o o_5 3 [.ref q_10, .int (nI 0)], oc_o x_6 9 [.ref o_5, v_11, .int (-1)], oc_i g d_8 1201 (fun _ => 0), oc_i g e_9 1201 (fun _ => 0), oc_o q_13 2 [.ref q_14], oc_i g q_14 513 (fun _ => 0), oc_o q_16 7 [.null, .int (nI 0), .int (nI 0)]] H := hP
  have hD : va_D A [oc_o h 0 [.ref q_1, .ref q_4, .ref q_13, .null, .null, .null, .null], oc_o q_1 8 [.ref q_2, .int (nI 0)], oc_i g q_2 1200 (fun _ => 0), oc_o q_4 10 [.ref q_1, .ref o_5, .ref x_6, .ref n_7, .ref d_8, .ref e_9, .int (nI 900), .int (nI 0)], oc_o o_5 3 [.ref q_10, .int (nI 0)], oc_o x_6 9 [.ref o_5, v_11, .int (-1)], oc_i g d_8 1201 (fun _ => 0), oc_i g e_9 1201 (fun _ => 0), oc_o q_13 2 [.ref q_14], oc_i g q_14 513 (fun _ => 0), oc_o q_16 7 [.null, .int (nI 0), .int (nI 0)]] := hD
  refine lv_dup hx hb dd_SR_init_45 rfl ?_
  refine xc_Iv (wr := [oc_o h 0 [.ref q_1, .ref q_4, .ref q_13, .null, .null, .null, .null], oc_o q_1 8 [.ref q_2, .int (nI 0)], oc_i g q_2 1200 (fun _ => 0), oc_o q_4 10 [.ref q_1, .ref o_5, .ref x_6, .ref n_7, .ref d_8, .ref e_9, .int (nI 900), .int (nI 0)], oc_o o_5 3 [.ref q_10, .int (nI 0)], oc_o x_6 9 [.ref o_5, v_11, .int (-1)], oc_i g d_8 1201 (fun _ => 0), oc_i g e_9 1201 (fun _ => 0), oc_o q_13 2 [.ref q_14], oc_i g q_14 513 (fun _ => 0)]) (k1 := 14) (k2 := 7659) (As := []) (rest := [.ref q_16, .ref h]) (k := 0) hF hP hD hS (ct_sy_init l g q_16) wc_SY_init wn_SY ml_SR_34 wi_SY_init rfl (by decide) [10] [0, 1, 2, 3, 4, 5, 6, 7, 8, 9] ⟨rfl, rfl, by decide, by decide, by decide⟩ ⟨⟨Nat.le_of_ble_eq_true rfl, Nat.le_of_ble_eq_true rfl⟩, rfl, rfl, Nat.le_of_ble_eq_true rfl, Nat.le_of_ble_eq_true rfl⟩ rfl hl.1 rfl (Nat.le_of_ble_eq_true rfl) dd_SR_init_46 (fun q_17 H locs hp hP hD hS => ?_)
  have hP : va_P g.1 vwCl [oc_o h 0 [.ref q_1, .ref q_4, .ref q_13, .null, .null, .null, .null], oc_o q_1 8 [.ref q_2, .int (nI 0)], oc_i g q_2 1200 (fun _ => 0), oc_o q_4 10 [.ref q_1, .ref o_5, .ref x_6, .ref n_7, .ref d_8, .ref e_9, .int (nI 900), .int (nI 0)], oc_o o_5 3 [.ref q_10, .int (nI 0)], oc_o x_6 9 [.ref o_5, v_11, .int (-1)], oc_i g d_8 1201 (fun _ => 0), oc_i g e_9 1201 (fun _ => 0), oc_o q_13 2 [.ref q_14], oc_i g q_14 513 (fun _ => 0), oc_o q_16 7 [.ref q_17, .int (nI 0), .int (nI 0)], oc_i g q_17 1108 (fun _ => 0)] H := hP
  have hD : va_D A [oc_o h 0 [.ref q_1, .ref q_4, .ref q_13, .null, .null, .null, .null], oc_o q_1 8 [.ref q_2, .int (nI 0)], oc_i g q_2 1200 (fun _ => 0), oc_o q_4 10 [.ref q_1, .ref o_5, .ref x_6, .ref n_7, .ref d_8, .ref e_9, .int (nI 900), .int (nI 0)], oc_o o_5 3 [.ref q_10, .int (nI 0)], oc_o x_6 9 [.ref o_5, v_11, .int (-1)], oc_i g d_8 1201 (fun _ => 0), oc_i g e_9 1201 (fun _ => 0), oc_o q_13 2 [.ref q_14], oc_i g q_14 513 (fun _ => 0), oc_o q_16 7 [.ref q_17, .int (nI 0), .int (nI 0)], oc_i g q_17 1108 (fun _ => 0)] := hD
  refine pf_SR_35 hin hx hb hts hown hK hP hD hS 0 rfl rfl rfl (Nat.le_of_ble_eq_true rfl) dd_SR_init_49 (fun H locs hP hD hS => ?_)
  have hP : va_P g.1 vwCl [oc_o h 0 [.ref q_1, .ref q_4, .ref q_13, .ref q_16, .null, .null, .null], oc_o q_1 8 [.ref q_2, .int (nI 0)], oc_i g q_2 1200 (fun _ => 0), oc_o q_4 10 [.ref q_1, .ref o_5, .ref x_6, .ref n_7, .ref d_8, .ref e_9, .int (nI 900), .int (nI 0)], oc_o o_5 3 [.ref q_10, .int (nI 0)], oc_o x_6 9 [.ref o_5, v_11, .int (-1)], oc_i g d_8 1201 (fun _ => 0), oc_i g e_9 1201 (fun _ => 0), oc_o q_13 2 [.ref q_14], oc_i g q_14 513 (fun _ => 0), oc_o q_16 7 [.ref q_17, .int (nI 0), .int (nI 0)], oc_i g q_17 1108 (fun _ => 0)] H := hP
  have hD : va_D A [oc_o h 0 [.ref q_1, .ref q_4, .ref q_13, .ref q_16, .null, .null, .null], oc_o q_1 8 [.ref q_2, .int (nI 0)], oc_i g q_2 1200 (fun _ => 0), oc_o q_4 10 [.ref q_1, .ref o_5, .ref x_6, .ref n_7, .ref d_8, .ref e_9, .int (nI 900), .int (nI 0)], oc_o o_5 3 [.ref q_10, .int (nI 0)], oc_o x_6 9 [.ref o_5, v_11, .int (-1)], oc_i g d_8 1201 (fun _ => 0), oc_i g e_9 1201 (fun _ => 0), oc_o q_13 2 [.ref q_14], oc_i g q_14 513 (fun _ => 0), oc_o q_16 7 [.ref q_17, .int (nI 0), .int (nI 0)], oc_i g q_17 1108 (fun _ => 0)] := hD
  refine lv_aload_n hx hb dd_SR_init_52 rfl (lv_at hl 0 rfl) ?_
  refine lv_sipush (v := nI 928) hx hb dd_SR_init_53 (by decide) ?_
  refine xa_newI (k1 := 15) (k2 := 8587) hx hb (hts _ wa_int) hK hP hD hS hA (by decide) rfl rfl (Nat.le_of_ble_eq_true rfl) (Nat.le_of_ble_eq_true rfl) dd_SR_init_56 (fun q_19 H hP hD hS => ?_)
  have hP : va_P g.1 vwCl [oc_o h 0 [.ref q_1, .ref q_4, .ref q_13, .ref q_16, .null, .null, .null], oc_o q_1 8 [.ref q_2, .int (nI 0)], oc_i g q_2 1200 (fun _ => 0), oc_o q_4 10 [.ref q_1, .ref o_5, .ref x_6, .ref n_7, .ref d_8, .ref e_9, .int (nI 900), .int (nI 0)], oc_o o_5 3 [.ref q_10, .int (nI 0)], oc_o x_6 9 [.ref o_5, v_11, .int (-1)], oc_i g d_8 1201 (fun _ => 0), oc_i g e_9 1201 (fun _ => 0), oc_o q_13 2 [.ref q_14], oc_i g q_14 513 (fun _ => 0), oc_o q_16 7 [.ref q_17, .int (nI 0), .int (nI 0)], oc_i g q_17 1108 (fun _ => 0), oc_i g q_19 928 (fun _ => 0)] H := hP
  have hD : va_D A [oc_o h 0 [.ref q_1, .ref q_4, .ref q_13, .ref q_16, .null, .null, .null], oc_o q_1 8 [.ref q_2, .int (nI 0)], oc_i g q_2 1200 (fun _ => 0), oc_o q_4 10 [.ref q_1, .ref o_5, .ref x_6, .ref n_7, .ref d_8, .ref e_9, .int (nI 900), .int (nI 0)], oc_o o_5 3 [.ref q_10, .int (nI 0)], oc_o x_6 9 [.ref o_5, v_11, .int (-1)], oc_i g d_8 1201 (fun _ => 0), oc_i g e_9 1201 (fun _ => 0), oc_o q_13 2 [.ref q_14], oc_i g q_14 513 (fun _ => 0), oc_o q_16 7 [.ref q_17, .int (nI 0), .int (nI 0)], oc_i g q_17 1108 (fun _ => 0), oc_i g q_19 928 (fun _ => 0)] := hD
  refine pf_SR_39 hin hx hb hts hown hK hP hD hS 0 rfl rfl rfl (Nat.le_of_ble_eq_true rfl) dd_SR_init_58 (fun H locs hP hD hS => ?_)
  have hP : va_P g.1 vwCl [oc_o h 0 [.ref q_1, .ref q_4, .ref q_13, .ref q_16, .null, .ref q_19, .null], oc_o q_1 8 [.ref q_2, .int (nI 0)], oc_i g q_2 1200 (fun _ => 0), oc_o q_4 10 [.ref q_1, .ref o_5, .ref x_6, .ref n_7, .ref d_8, .ref e_9, .int (nI 900), .int (nI 0)], oc_o o_5 3 [.ref q_10, .int (nI 0)], oc_o x_6 9 [.ref o_5, v_11, .int (-1)], oc_i g d_8 1201 (fun _ => 0), oc_i g e_9 1201 (fun _ => 0), oc_o q_13 2 [.ref q_14], oc_i g q_14 513 (fun _ => 0), oc_o q_16 7 [.ref q_17, .int (nI 0), .int (nI 0)], oc_i g q_17 1108 (fun _ => 0), oc_i g q_19 928 (fun _ => 0)] H := hP
  have hD : va_D A [oc_o h 0 [.ref q_1, .ref q_4, .ref q_13, .ref q_16, .null, .ref q_19, .null], oc_o q_1 8 [.ref q_2, .int (nI 0)], oc_i g q_2 1200 (fun _ => 0), oc_o q_4 10 [.ref q_1, .ref o_5, .ref x_6, .ref n_7, .ref d_8, .ref e_9, .int (nI 900), .int (nI 0)], oc_o o_5 3 [.ref q_10, .int (nI 0)], oc_o x_6 9 [.ref o_5, v_11, .int (-1)], oc_i g d_8 1201 (fun _ => 0), oc_i g e_9 1201 (fun _ => 0), oc_o q_13 2 [.ref q_14], oc_i g q_14 513 (fun _ => 0), oc_o q_16 7 [.ref q_17, .int (nI 0), .int (nI 0)], oc_i g q_17 1108 (fun _ => 0), oc_i g q_19 928 (fun _ => 0)] := hD
  refine lv_aload_n hx hb dd_SR_init_61 rfl (lv_at hl 0 rfl) ?_
  refine nw_SR_43 (k1 := 16) (k2 := 8596) hx hb hts hown hK hP hD hS hA rfl rfl (Nat.le_of_ble_eq_true rfl) (Nat.le_of_ble_eq_true rfl) dd_SR_init_62 (fun q_20 H hP hD hS => ?_)
  have hP : va_P g.1 vwCl [oc_o h 0 [.ref q_1, .ref q_4, .ref q_13, .ref q_16, .null, .ref q_19, .null], oc_o q_1 8 [.ref q_2, .int (nI 0)], oc_i g q_2 1200 (fun _ => 0), oc_o q_4 10 [.ref q_1, .ref o_5, .ref x_6, .ref n_7, .ref d_8, .ref e_9, .int (nI 900), .int (nI 0)], oc_o o_5 3 [.ref q_10, .int (nI 0)], oc_o x_6 9 [.ref o_5, v_11, .int (-1)], oc_i g d_8 1201 (fun _ => 0), oc_i g e_9 1201 (fun _ => 0), oc_o q_13 2 [.ref q_14], oc_i g q_14 513 (fun _ => 0), oc_o q_16 7 [.ref q_17, .int (nI 0), .int (nI 0)], oc_i g q_17 1108 (fun _ => 0), oc_i g q_19 928 (fun _ => 0), oc_o q_20 6 [.null, .null, .null, .null, .null, .null, .int (nI 0), .int (nI 0), .int (nI 0)]] H := hP
  have hD : va_D A [oc_o h 0 [.ref q_1, .ref q_4, .ref q_13, .ref q_16, .null, .ref q_19, .null], oc_o q_1 8 [.ref q_2, .int (nI 0)], oc_i g q_2 1200 (fun _ => 0), oc_o q_4 10 [.ref q_1, .ref o_5, .ref x_6, .ref n_7, .ref d_8, .ref e_9, .int (nI 900), .int (nI 0)], oc_o o_5 3 [.ref q_10, .int (nI 0)], oc_o x_6 9 [.ref o_5, v_11, .int (-1)], oc_i g d_8 1201 (fun _ => 0), oc_i g e_9 1201 (fun _ => 0), oc_o q_13 2 [.ref q_14], oc_i g q_14 513 (fun _ => 0), oc_o q_16 7 [.ref q_17, .int (nI 0), .int (nI 0)], oc_i g q_17 1108 (fun _ => 0), oc_i g q_19 928 (fun _ => 0), oc_o q_20 6 [.null, .null, .null, .null, .null, .null, .int (nI 0), .int (nI 0), .int (nI 0)]] := hD
  refine lv_dup hx hb dd_SR_init_65 rfl ?_
  refine lv_aload_n hx hb dd_SR_init_66 rfl (lv_at hl 0 rfl) ?_
  refine gf_SR_39 hx hb hts hown hK hP 0 rfl rfl dd_SR_init_67 ?_
  refine xc_Iv (wr := [oc_o h 0 [.ref q_1, .ref q_4, .ref q_13, .ref q_16, .null, .ref q_19, .null], oc_o q_1 8 [.ref q_2, .int (nI 0)], oc_i g q_2 1200 (fun _ => 0), oc_o q_4 10 [.ref q_1, .ref o_5, .ref x_6, .ref n_7, .ref d_8, .ref e_9, .int (nI 900), .int (nI 0)], oc_o o_5 3 [.ref q_10, .int (nI 0)], oc_o x_6 9 [.ref o_5, v_11, .int (-1)], oc_i g d_8 1201 (fun _ => 0), oc_i g e_9 1201 (fun _ => 0), oc_o q_13 2 [.ref q_14], oc_i g q_14 513 (fun _ => 0), oc_o q_16 7 [.ref q_17, .int (nI 0), .int (nI 0)], oc_i g q_17 1108 (fun _ => 0), oc_i g q_19 928 (fun _ => 0)]) (k1 := 29) (k2 := 13445) (As := [.ref q_19]) (rest := [.ref q_20, .ref h]) (k := 1) hF hP hD hS (ct_sv_init l g q_20 q_19) wc_SV_init wn_SV ml_SR_45 wi_SV_init rfl (by decide) [13] [0, 1, 2, 3, 4, 5, 6, 7, 8, 9, 10, 11, 12] ⟨rfl, rfl, by decide, by decide, by decide⟩ ⟨⟨Nat.le_of_ble_eq_true rfl, Nat.le_of_ble_eq_true rfl⟩, rfl, rfl, Nat.le_of_ble_eq_true rfl, Nat.le_of_ble_eq_true rfl⟩ rfl hl.1 rfl (Nat.le_of_ble_eq_true rfl) dd_SR_init_70 (fun u H locs hp hP hD hS => ?_)
  have hP : va_P g.1 vwCl [oc_o h 0 [.ref q_1, .ref q_4, .ref q_13, .ref q_16, .null, .ref q_19, .null], oc_o q_1 8 [.ref q_2, .int (nI 0)], oc_i g q_2 1200 (fun _ => 0), oc_o q_4 10 [.ref q_1, .ref o_5, .ref x_6, .ref n_7, .ref d_8, .ref e_9, .int (nI 900), .int (nI 0)], oc_o o_5 3 [.ref q_10, .int (nI 0)], oc_o x_6 9 [.ref o_5, v_11, .int (-1)], oc_i g d_8 1201 (fun _ => 0), oc_i g e_9 1201 (fun _ => 0), oc_o q_13 2 [.ref q_14], oc_i g q_14 513 (fun _ => 0), oc_o q_16 7 [.ref q_17, .int (nI 0), .int (nI 0)], oc_i g q_17 1108 (fun _ => 0), oc_i g q_19 928 (fun _ => 0)] H := hP
  have hD : va_D A [oc_o h 0 [.ref q_1, .ref q_4, .ref q_13, .ref q_16, .null, .ref q_19, .null], oc_o q_1 8 [.ref q_2, .int (nI 0)], oc_i g q_2 1200 (fun _ => 0), oc_o q_4 10 [.ref q_1, .ref o_5, .ref x_6, .ref n_7, .ref d_8, .ref e_9, .int (nI 900), .int (nI 0)], oc_o o_5 3 [.ref q_10, .int (nI 0)], oc_o x_6 9 [.ref o_5, v_11, .int (-1)], oc_i g d_8 1201 (fun _ => 0), oc_i g e_9 1201 (fun _ => 0), oc_o q_13 2 [.ref q_14], oc_i g q_14 513 (fun _ => 0), oc_o q_16 7 [.ref q_17, .int (nI 0), .int (nI 0)], oc_i g q_17 1108 (fun _ => 0), oc_i g q_19 928 (fun _ => 0)] := hD
  refine pf_SR_48 hin hx hb hts hown hK hP hD hS 0 rfl rfl rfl (Nat.le_of_ble_eq_true rfl) dd_SR_init_73 (fun H locs hP hD hS => ?_)
  have hP : va_P g.1 vwCl [oc_o h 0 [.ref q_1, .ref q_4, .ref q_13, .ref q_16, .ref q_20, .ref q_19, .null], oc_o q_1 8 [.ref q_2, .int (nI 0)], oc_i g q_2 1200 (fun _ => 0), oc_o q_4 10 [.ref q_1, .ref o_5, .ref x_6, .ref n_7, .ref d_8, .ref e_9, .int (nI 900), .int (nI 0)], oc_o o_5 3 [.ref q_10, .int (nI 0)], oc_o x_6 9 [.ref o_5, v_11, .int (-1)], oc_i g d_8 1201 (fun _ => 0), oc_i g e_9 1201 (fun _ => 0), oc_o q_13 2 [.ref q_14], oc_i g q_14 513 (fun _ => 0), oc_o q_16 7 [.ref q_17, .int (nI 0), .int (nI 0)], oc_i g q_17 1108 (fun _ => 0), oc_i g q_19 928 (fun _ => 0)] H := hP
  have hD : va_D A [oc_o h 0 [.ref q_1, .ref q_4, .ref q_13, .ref q_16, .ref q_20, .ref q_19, .null], oc_o q_1 8 [.ref q_2, .int (nI 0)], oc_i g q_2 1200 (fun _ => 0), oc_o q_4 10 [.ref q_1, .ref o_5, .ref x_6, .ref n_7, .ref d_8, .ref e_9, .int (nI 900), .int (nI 0)], oc_o o_5 3 [.ref q_10, .int (nI 0)], oc_o x_6 9 [.ref o_5, v_11, .int (-1)], oc_i g d_8 1201 (fun _ => 0), oc_i g e_9 1201 (fun _ => 0), oc_o q_13 2 [.ref q_14], oc_i g q_14 513 (fun _ => 0), oc_o q_16 7 [.ref q_17, .int (nI 0), .int (nI 0)], oc_i g q_17 1108 (fun _ => 0), oc_i g q_19 928 (fun _ => 0)] := hD
  refine lv_aload_n hx hb dd_SR_init_76 rfl (lv_at hl 0 rfl) ?_
  refine lv_iconst (v := nI 4) hx hb dd_SR_init_77 (by decide) ?_
  refine xa_newI (k1 := 30) (k2 := 13449) hx hb (hts _ wa_int) hK hP hD hS hA (by decide) rfl rfl (Nat.le_of_ble_eq_true rfl) (Nat.le_of_ble_eq_true rfl) dd_SR_init_78 (fun q_22 H hP hD hS => ?_)
  have hP : va_P g.1 vwCl [oc_o h 0 [.ref q_1, .ref q_4, .ref q_13, .ref q_16, .ref q_20, .ref q_19, .null], oc_o q_1 8 [.ref q_2, .int (nI 0)], oc_i g q_2 1200 (fun _ => 0), oc_o q_4 10 [.ref q_1, .ref o_5, .ref x_6, .ref n_7, .ref d_8, .ref e_9, .int (nI 900), .int (nI 0)], oc_o o_5 3 [.ref q_10, .int (nI 0)], oc_o x_6 9 [.ref o_5, v_11, .int (-1)], oc_i g d_8 1201 (fun _ => 0), oc_i g e_9 1201 (fun _ => 0), oc_o q_13 2 [.ref q_14], oc_i g q_14 513 (fun _ => 0), oc_o q_16 7 [.ref q_17, .int (nI 0), .int (nI 0)], oc_i g q_17 1108 (fun _ => 0), oc_i g q_19 928 (fun _ => 0), oc_i g q_22 4 (fun _ => 0)] H := hP
  have hD : va_D A [oc_o h 0 [.ref q_1, .ref q_4, .ref q_13, .ref q_16, .ref q_20, .ref q_19, .null], oc_o q_1 8 [.ref q_2, .int (nI 0)], oc_i g q_2 1200 (fun _ => 0), oc_o q_4 10 [.ref q_1, .ref o_5, .ref x_6, .ref n_7, .ref d_8, .ref e_9, .int (nI 900), .int (nI 0)], oc_o o_5 3 [.ref q_10, .int (nI 0)], oc_o x_6 9 [.ref o_5, v_11, .int (-1)], oc_i g d_8 1201 (fun _ => 0), oc_i g e_9 1201 (fun _ => 0), oc_o q_13 2 [.ref q_14], oc_i g q_14 513 (fun _ => 0), oc_o q_16 7 [.ref q_17, .int (nI 0), .int (nI 0)], oc_i g q_17 1108 (fun _ => 0), oc_i g q_19 928 (fun _ => 0), oc_i g q_22 4 (fun _ => 0)] := hD
  refine pf_SR_52 hin hx hb hts hown hK hP hD hS 0 rfl rfl rfl (Nat.le_of_ble_eq_true rfl) dd_SR_init_80 (fun H locs hP hD hS => ?_)
  have hP : va_P g.1 vwCl [oc_o h 0 [.ref q_1, .ref q_4, .ref q_13, .ref q_16, .ref q_20, .ref q_19, .ref q_22], oc_o q_1 8 [.ref q_2, .int (nI 0)], oc_i g q_2 1200 (fun _ => 0), oc_o q_4 10 [.ref q_1, .ref o_5, .ref x_6, .ref n_7, .ref d_8, .ref e_9, .int (nI 900), .int (nI 0)], oc_o o_5 3 [.ref q_10, .int (nI 0)], oc_o x_6 9 [.ref o_5, v_11, .int (-1)], oc_i g d_8 1201 (fun _ => 0), oc_i g e_9 1201 (fun _ => 0), oc_o q_13 2 [.ref q_14], oc_i g q_14 513 (fun _ => 0), oc_o q_16 7 [.ref q_17, .int (nI 0), .int (nI 0)], oc_i g q_17 1108 (fun _ => 0), oc_i g q_19 928 (fun _ => 0), oc_i g q_22 4 (fun _ => 0)] H := hP
  have hD : va_D A [oc_o h 0 [.ref q_1, .ref q_4, .ref q_13, .ref q_16, .ref q_20, .ref q_19, .ref q_22], oc_o q_1 8 [.ref q_2, .int (nI 0)], oc_i g q_2 1200 (fun _ => 0), oc_o q_4 10 [.ref q_1, .ref o_5, .ref x_6, .ref n_7, .ref d_8, .ref e_9, .int (nI 900), .int (nI 0)], oc_o o_5 3 [.ref q_10, .int (nI 0)], oc_o x_6 9 [.ref o_5, v_11, .int (-1)], oc_i g d_8 1201 (fun _ => 0), oc_i g e_9 1201 (fun _ => 0), oc_o q_13 2 [.ref q_14], oc_i g q_14 513 (fun _ => 0), oc_o q_16 7 [.ref q_17, .int (nI 0), .int (nI 0)], oc_i g q_17 1108 (fun _ => 0), oc_i g q_19 928 (fun _ => 0), oc_i g q_22 4 (fun _ => 0)] := hD
  exact xr_v hx hb hr hlk hQ hP hD hS (q_1, q_4, q_13, q_16, q_20, q_19, q_22, q_2, o_5, x_6, n_7, d_8, e_9, q_10, q_14, q_17, v_11) trivial [0, 1, 2, 3, 4, 5, 6, 7, 8, 9, 10, 11, 12, 13] (by decide) rfl (Nat.le_of_ble_eq_true rfl) (Nat.le_of_ble_eq_true rfl) dd_SR_init_83

set_option maxHeartbeats 4000000 in
set_option maxRecDepth 100000 in
theorem cf_feed (l : Launch) (g : xg_G) (h : Nat) (tp : Nat) (wt : Nat) (ck : Nat) (sy : Nat) (sv : Nat) (rw : Nat) (lt : Nat) (tb : Nat) (o : Nat) (x : Nat) (n : Nat) (d : Nat) (e9 : Nat) (x1 : Int32) (x2 : Int32) (x3 : Int32) (x4 : Int32) (x5 : Int32) : kc_I l yy_SR_feed cd_SR_feed 6 .int { frames := 2, cells := 0, slots := 0, locals := 43 } g [.ref h, .int x1, .int x2, .int x3, .int x4, .int x5] [oc_o h 0 [.ref tp, .ref wt, .ref ck, .ref sy, .ref sv, .ref rw, .ref lt], oc_o tp 8 [.ref tb, .int (nI 0)], oc_i g tb 1200 (fun _ => 0), oc_o wt 10 [.ref tp, .ref o, .ref x, .ref n, .ref d, .ref e9, .int (nI 900), .int (nI 0)]] (S := Unit) (fun r0 _ => r0 = nI 20) (fun _ => []) := by
  refine kc_Iof (by decide) (Nat.le_of_ble_eq_true rfl) ?_
  intro p e s m args below meth c A ls Q H locs hQ hB hP hS
  obtain ⟨hx, hb, hr, hlk, hin, hml, hown, hts, hA, hK, hD, hE, hl⟩ := hB
  have hF : xf_F g p m c cd_SR_feed 6 s args "StackedRows" A := ⟨⟨hx, hb, hml, hown, hts⟩, hE, hK, hA⟩
  have hl : lv_has ls 6 [(0, .ref h), (1, .int x1), (2, .int x2), (3, .int x3), (4, .int x4), (5, .int x5)] := hl
  have hown : s.vm.findClass "StackedRows" = some m.cls := hown
  refine lv_aload_n hx hb dd_SR_feed_0 rfl (lv_at hl 0 rfl) ?_
  refine gf_SR_12 hx hb hts hown hK hP 0 rfl rfl dd_SR_feed_1 ?_
  refine xc_Vi (wr := [oc_o h 0 [.ref tp, .ref wt, .ref ck, .ref sy, .ref sv, .ref rw, .ref lt], oc_i g tb 1200 (fun _ => 0), oc_o wt 10 [.ref tp, .ref o, .ref x, .ref n, .ref d, .ref e9, .int (nI 900), .int (nI 0)]]) (k1 := 0) (k2 := 0) (As := []) (rest := []) (k := 0) hF hP hD hS (ct_tape_size l g tp tb 0) (xt_V ml_SR_55 wi_TP_size wx_TP_size wn_TP wc_TP_size) (by decide) 1 rfl rfl rfl [1] [0, 2, 3] ⟨rfl, rfl, by decide, by decide, by decide⟩ ⟨⟨Nat.le_of_ble_eq_true rfl, Nat.le_of_ble_eq_true rfl⟩, rfl, rfl, Nat.le_of_ble_eq_true rfl, Nat.le_of_ble_eq_true rfl⟩ rfl hl.1 rfl (Nat.le_of_ble_eq_true rfl) dd_SR_feed_4 (fun r_1 u H locs hp hP hD hS => ?_)
  obtain rfl := hp
  have hP : va_P g.1 vwCl [oc_o h 0 [.ref tp, .ref wt, .ref ck, .ref sy, .ref sv, .ref rw, .ref lt], oc_i g tb 1200 (fun _ => 0), oc_o wt 10 [.ref tp, .ref o, .ref x, .ref n, .ref d, .ref e9, .int (nI 900), .int (nI 0)], oc_o tp 8 [.ref tb, .int (nI 0)]] H := hP
  have hD : va_D A [oc_o h 0 [.ref tp, .ref wt, .ref ck, .ref sy, .ref sv, .ref rw, .ref lt], oc_i g tb 1200 (fun _ => 0), oc_o wt 10 [.ref tp, .ref o, .ref x, .ref n, .ref d, .ref e9, .int (nI 900), .int (nI 0)], oc_o tp 8 [.ref tb, .int (nI 0)]] := hD
  refine lv_bipush (v := nI 20) hx hb dd_SR_feed_7 (by decide) ?_
  refine xi_iadd hx hb dd_SR_feed_9 ?_
  refine lv_sipush (v := nI 1200) hx hb dd_SR_feed_10 (by decide) ?_
  refine lv_icmp_le (tgt := 24) hx hb dd_SR_feed_13 rfl (fun _ => ?_) (fun h_2 => absurd (by decide) h_2)
  refine lv_aload_n hx hb dd_SR_feed_24 rfl (lv_at hl 0 rfl) ?_
  refine gf_SR_12 hx hb hts hown hK hP 0 rfl rfl dd_SR_feed_25 ?_
  refine lv_iload_n hx hb dd_SR_feed_28 rfl (lv_at hl 1 rfl) ?_
  refine xc_Vv (wr := [oc_o h 0 [.ref tp, .ref wt, .ref ck, .ref sy, .ref sv, .ref rw, .ref lt], oc_o wt 10 [.ref tp, .ref o, .ref x, .ref n, .ref d, .ref e9, .int (nI 900), .int (nI 0)]]) (k1 := 0) (k2 := 0) (As := [.int x1]) (rest := []) (k := 1) hF hP hD hS (ct_tape_four l g tp tb 0 (fun _ => 0) x1 (by omega)) (xt_V ml_SR_62 wi_TP_addFour wx_TP_addFour wn_TP wc_TP_addFour) (by decide) 3 rfl rfl rfl [3, 1] [0, 2] ⟨rfl, rfl, by decide, by decide, by decide⟩ ⟨⟨Nat.le_of_ble_eq_true rfl, Nat.le_of_ble_eq_true rfl⟩, rfl, rfl, Nat.le_of_ble_eq_true rfl, Nat.le_of_ble_eq_true rfl⟩ rfl hl.1 rfl (Nat.le_of_ble_eq_true rfl) dd_SR_feed_29 (fun f_3 H locs hp hP hD hS => ?_)
  have hP : va_P g.1 vwCl [oc_o h 0 [.ref tp, .ref wt, .ref ck, .ref sy, .ref sv, .ref rw, .ref lt], oc_o wt 10 [.ref tp, .ref o, .ref x, .ref n, .ref d, .ref e9, .int (nI 900), .int (nI 0)], oc_o tp 8 [.ref tb, .int (nI (0 + 4))], oc_i g tb 1200 f_3] H := hP
  have hD : va_D A [oc_o h 0 [.ref tp, .ref wt, .ref ck, .ref sy, .ref sv, .ref rw, .ref lt], oc_o wt 10 [.ref tp, .ref o, .ref x, .ref n, .ref d, .ref e9, .int (nI 900), .int (nI 0)], oc_o tp 8 [.ref tb, .int (nI (0 + 4))], oc_i g tb 1200 f_3] := hD
  refine lv_aload_n hx hb dd_SR_feed_32 rfl (lv_at hl 0 rfl) ?_
  refine gf_SR_12 hx hb hts hown hK hP 0 rfl rfl dd_SR_feed_33 ?_
  refine lv_iload_n hx hb dd_SR_feed_36 rfl (lv_at hl 2 rfl) ?_
  refine xc_Vv (wr := [oc_o h 0 [.ref tp, .ref wt, .ref ck, .ref sy, .ref sv, .ref rw, .ref lt], oc_o wt 10 [.ref tp, .ref o, .ref x, .ref n, .ref d, .ref e9, .int (nI 900), .int (nI 0)]]) (k1 := 0) (k2 := 0) (As := [.int x2]) (rest := []) (k := 1) hF hP hD hS (ct_tape_four l g tp tb (0 + 4) f_3 x2 (by omega)) (xt_V ml_SR_62 wi_TP_addFour wx_TP_addFour wn_TP wc_TP_addFour) (by decide) 2 rfl rfl rfl [2, 3] [0, 1] ⟨rfl, rfl, by decide, by decide, by decide⟩ ⟨⟨Nat.le_of_ble_eq_true rfl, Nat.le_of_ble_eq_true rfl⟩, rfl, rfl, Nat.le_of_ble_eq_true rfl, Nat.le_of_ble_eq_true rfl⟩ rfl hl.1 rfl (Nat.le_of_ble_eq_true rfl) dd_SR_feed_37 (fun f_5 H locs hp hP hD hS => ?_)
  have hP : va_P g.1 vwCl [oc_o h 0 [.ref tp, .ref wt, .ref ck, .ref sy, .ref sv, .ref rw, .ref lt], oc_o wt 10 [.ref tp, .ref o, .ref x, .ref n, .ref d, .ref e9, .int (nI 900), .int (nI 0)], oc_o tp 8 [.ref tb, .int (nI ((0 + 4) + 4))], oc_i g tb 1200 f_5] H := hP
  have hD : va_D A [oc_o h 0 [.ref tp, .ref wt, .ref ck, .ref sy, .ref sv, .ref rw, .ref lt], oc_o wt 10 [.ref tp, .ref o, .ref x, .ref n, .ref d, .ref e9, .int (nI 900), .int (nI 0)], oc_o tp 8 [.ref tb, .int (nI ((0 + 4) + 4))], oc_i g tb 1200 f_5] := hD
  refine lv_aload_n hx hb dd_SR_feed_40 rfl (lv_at hl 0 rfl) ?_
  refine gf_SR_12 hx hb hts hown hK hP 0 rfl rfl dd_SR_feed_41 ?_
  refine lv_iload_n hx hb dd_SR_feed_44 rfl (lv_at hl 3 rfl) ?_
  refine xc_Vv (wr := [oc_o h 0 [.ref tp, .ref wt, .ref ck, .ref sy, .ref sv, .ref rw, .ref lt], oc_o wt 10 [.ref tp, .ref o, .ref x, .ref n, .ref d, .ref e9, .int (nI 900), .int (nI 0)]]) (k1 := 0) (k2 := 0) (As := [.int x3]) (rest := []) (k := 1) hF hP hD hS (ct_tape_four l g tp tb ((0 + 4) + 4) f_5 x3 (by omega)) (xt_V ml_SR_62 wi_TP_addFour wx_TP_addFour wn_TP wc_TP_addFour) (by decide) 2 rfl rfl rfl [2, 3] [0, 1] ⟨rfl, rfl, by decide, by decide, by decide⟩ ⟨⟨Nat.le_of_ble_eq_true rfl, Nat.le_of_ble_eq_true rfl⟩, rfl, rfl, Nat.le_of_ble_eq_true rfl, Nat.le_of_ble_eq_true rfl⟩ rfl hl.1 rfl (Nat.le_of_ble_eq_true rfl) dd_SR_feed_45 (fun f_7 H locs hp hP hD hS => ?_)
  have hP : va_P g.1 vwCl [oc_o h 0 [.ref tp, .ref wt, .ref ck, .ref sy, .ref sv, .ref rw, .ref lt], oc_o wt 10 [.ref tp, .ref o, .ref x, .ref n, .ref d, .ref e9, .int (nI 900), .int (nI 0)], oc_o tp 8 [.ref tb, .int (nI (((0 + 4) + 4) + 4))], oc_i g tb 1200 f_7] H := hP
  have hD : va_D A [oc_o h 0 [.ref tp, .ref wt, .ref ck, .ref sy, .ref sv, .ref rw, .ref lt], oc_o wt 10 [.ref tp, .ref o, .ref x, .ref n, .ref d, .ref e9, .int (nI 900), .int (nI 0)], oc_o tp 8 [.ref tb, .int (nI (((0 + 4) + 4) + 4))], oc_i g tb 1200 f_7] := hD
  refine lv_aload_n hx hb dd_SR_feed_48 rfl (lv_at hl 0 rfl) ?_
  refine gf_SR_12 hx hb hts hown hK hP 0 rfl rfl dd_SR_feed_49 ?_
  refine lv_iload hx hb dd_SR_feed_52 (lv_at hl 4 rfl) ?_
  refine xc_Vv (wr := [oc_o h 0 [.ref tp, .ref wt, .ref ck, .ref sy, .ref sv, .ref rw, .ref lt], oc_o wt 10 [.ref tp, .ref o, .ref x, .ref n, .ref d, .ref e9, .int (nI 900), .int (nI 0)]]) (k1 := 0) (k2 := 0) (As := [.int x4]) (rest := []) (k := 1) hF hP hD hS (ct_tape_four l g tp tb (((0 + 4) + 4) + 4) f_7 x4 (by omega)) (xt_V ml_SR_62 wi_TP_addFour wx_TP_addFour wn_TP wc_TP_addFour) (by decide) 2 rfl rfl rfl [2, 3] [0, 1] ⟨rfl, rfl, by decide, by decide, by decide⟩ ⟨⟨Nat.le_of_ble_eq_true rfl, Nat.le_of_ble_eq_true rfl⟩, rfl, rfl, Nat.le_of_ble_eq_true rfl, Nat.le_of_ble_eq_true rfl⟩ rfl hl.1 rfl (Nat.le_of_ble_eq_true rfl) dd_SR_feed_54 (fun f_9 H locs hp hP hD hS => ?_)
  have hP : va_P g.1 vwCl [oc_o h 0 [.ref tp, .ref wt, .ref ck, .ref sy, .ref sv, .ref rw, .ref lt], oc_o wt 10 [.ref tp, .ref o, .ref x, .ref n, .ref d, .ref e9, .int (nI 900), .int (nI 0)], oc_o tp 8 [.ref tb, .int (nI ((((0 + 4) + 4) + 4) + 4))], oc_i g tb 1200 f_9] H := hP
  have hD : va_D A [oc_o h 0 [.ref tp, .ref wt, .ref ck, .ref sy, .ref sv, .ref rw, .ref lt], oc_o wt 10 [.ref tp, .ref o, .ref x, .ref n, .ref d, .ref e9, .int (nI 900), .int (nI 0)], oc_o tp 8 [.ref tb, .int (nI ((((0 + 4) + 4) + 4) + 4))], oc_i g tb 1200 f_9] := hD
  refine lv_aload_n hx hb dd_SR_feed_57 rfl (lv_at hl 0 rfl) ?_
  refine gf_SR_12 hx hb hts hown hK hP 0 rfl rfl dd_SR_feed_58 ?_
  refine lv_iload hx hb dd_SR_feed_61 (lv_at hl 5 rfl) ?_
  refine xc_Vv (wr := [oc_o h 0 [.ref tp, .ref wt, .ref ck, .ref sy, .ref sv, .ref rw, .ref lt], oc_o wt 10 [.ref tp, .ref o, .ref x, .ref n, .ref d, .ref e9, .int (nI 900), .int (nI 0)]]) (k1 := 0) (k2 := 0) (As := [.int x5]) (rest := []) (k := 1) hF hP hD hS (ct_tape_four l g tp tb ((((0 + 4) + 4) + 4) + 4) f_9 x5 (by omega)) (xt_V ml_SR_62 wi_TP_addFour wx_TP_addFour wn_TP wc_TP_addFour) (by decide) 2 rfl rfl rfl [2, 3] [0, 1] ⟨rfl, rfl, by decide, by decide, by decide⟩ ⟨⟨Nat.le_of_ble_eq_true rfl, Nat.le_of_ble_eq_true rfl⟩, rfl, rfl, Nat.le_of_ble_eq_true rfl, Nat.le_of_ble_eq_true rfl⟩ rfl hl.1 rfl (Nat.le_of_ble_eq_true rfl) dd_SR_feed_63 (fun f_11 H locs hp hP hD hS => ?_)
  have hP : va_P g.1 vwCl [oc_o h 0 [.ref tp, .ref wt, .ref ck, .ref sy, .ref sv, .ref rw, .ref lt], oc_o wt 10 [.ref tp, .ref o, .ref x, .ref n, .ref d, .ref e9, .int (nI 900), .int (nI 0)], oc_o tp 8 [.ref tb, .int (nI (((((0 + 4) + 4) + 4) + 4) + 4))], oc_i g tb 1200 f_11] H := hP
  have hD : va_D A [oc_o h 0 [.ref tp, .ref wt, .ref ck, .ref sy, .ref sv, .ref rw, .ref lt], oc_o wt 10 [.ref tp, .ref o, .ref x, .ref n, .ref d, .ref e9, .int (nI 900), .int (nI 0)], oc_o tp 8 [.ref tb, .int (nI (((((0 + 4) + 4) + 4) + 4) + 4))], oc_i g tb 1200 f_11] := hD
  refine lv_aload_n hx hb dd_SR_feed_66 rfl (lv_at hl 0 rfl) ?_
  refine gf_SR_21 hx hb hts hown hK hP 0 rfl rfl dd_SR_feed_67 ?_
  refine xc_Vv (wr := [oc_o h 0 [.ref tp, .ref wt, .ref ck, .ref sy, .ref sv, .ref rw, .ref lt], oc_o tp 8 [.ref tb, .int (nI (((((0 + 4) + 4) + 4) + 4) + 4))], oc_i g tb 1200 f_11]) (k1 := 0) (k2 := 0) (As := []) (rest := []) (k := 0) hF hP hD hS (ct_wr_forget l g wt tp o x n d e9) (xt_V ml_SR_66 wi_WR_forget wx_WR_forget wn_WR wc_WR_forget) (by decide) 1 rfl rfl rfl [1] [0, 2, 3] ⟨rfl, rfl, by decide, by decide, by decide⟩ ⟨⟨Nat.le_of_ble_eq_true rfl, Nat.le_of_ble_eq_true rfl⟩, rfl, rfl, Nat.le_of_ble_eq_true rfl, Nat.le_of_ble_eq_true rfl⟩ rfl hl.1 rfl (Nat.le_of_ble_eq_true rfl) dd_SR_feed_70 (fun u H locs hp hP hD hS => ?_)
  have hP : va_P g.1 vwCl [oc_o h 0 [.ref tp, .ref wt, .ref ck, .ref sy, .ref sv, .ref rw, .ref lt], oc_o tp 8 [.ref tb, .int (nI (((((0 + 4) + 4) + 4) + 4) + 4))], oc_i g tb 1200 f_11, oc_o wt 10 [.ref tp, .ref o, .ref x, .ref n, .ref d, .ref e9, .int (nI 900), .int (nI 0)]] H := hP
  have hD : va_D A [oc_o h 0 [.ref tp, .ref wt, .ref ck, .ref sy, .ref sv, .ref rw, .ref lt], oc_o tp 8 [.ref tb, .int (nI (((((0 + 4) + 4) + 4) + 4) + 4))], oc_i g tb 1200 f_11, oc_o wt 10 [.ref tp, .ref o, .ref x, .ref n, .ref d, .ref e9, .int (nI 900), .int (nI 0)]] := hD
  refine lv_aload_n hx hb dd_SR_feed_73 rfl (lv_at hl 0 rfl) ?_
  refine gf_SR_12 hx hb hts hown hK hP 0 rfl rfl dd_SR_feed_74 ?_
  refine xc_Vi (wr := [oc_o h 0 [.ref tp, .ref wt, .ref ck, .ref sy, .ref sv, .ref rw, .ref lt], oc_i g tb 1200 f_11, oc_o wt 10 [.ref tp, .ref o, .ref x, .ref n, .ref d, .ref e9, .int (nI 900), .int (nI 0)]]) (k1 := 0) (k2 := 0) (As := []) (rest := []) (k := 0) hF hP hD hS (ct_tape_size l g tp tb (((((0 + 4) + 4) + 4) + 4) + 4)) (xt_V ml_SR_55 wi_TP_size wx_TP_size wn_TP wc_TP_size) (by decide) 1 rfl rfl rfl [1] [0, 2, 3] ⟨rfl, rfl, by decide, by decide, by decide⟩ ⟨⟨Nat.le_of_ble_eq_true rfl, Nat.le_of_ble_eq_true rfl⟩, rfl, rfl, Nat.le_of_ble_eq_true rfl, Nat.le_of_ble_eq_true rfl⟩ rfl hl.1 rfl (Nat.le_of_ble_eq_true rfl) dd_SR_feed_77 (fun r_14 u H locs hp hP hD hS => ?_)
  obtain rfl := hp
  have hP : va_P g.1 vwCl [oc_o h 0 [.ref tp, .ref wt, .ref ck, .ref sy, .ref sv, .ref rw, .ref lt], oc_i g tb 1200 f_11, oc_o wt 10 [.ref tp, .ref o, .ref x, .ref n, .ref d, .ref e9, .int (nI 900), .int (nI 0)], oc_o tp 8 [.ref tb, .int (nI (((((0 + 4) + 4) + 4) + 4) + 4))]] H := hP
  have hD : va_D A [oc_o h 0 [.ref tp, .ref wt, .ref ck, .ref sy, .ref sv, .ref rw, .ref lt], oc_i g tb 1200 f_11, oc_o wt 10 [.ref tp, .ref o, .ref x, .ref n, .ref d, .ref e9, .int (nI 900), .int (nI 0)], oc_o tp 8 [.ref tb, .int (nI (((((0 + 4) + 4) + 4) + 4) + 4))]] := hD
  exact xr_i hx hb hr hlk hQ hP hD hS () (by first | rfl | exact congrArg nI (by omega)) [] (by decide) rfl rfl (Nat.le_of_ble_eq_true rfl) (Nat.le_of_ble_eq_true rfl) dd_SR_feed_80

set_option maxHeartbeats 4000000 in
set_option maxRecDepth 100000 in
theorem cf_end0 (l : Launch) (g : xg_G) (h : Nat) (tp : Nat) (wt : Nat) (ck : Nat) (sy : Nat) (sv : Nat) (rw : Nat) (lt : Nat) (tb : Nat) (o : Nat) (x : Nat) (n : Nat) (d : Nat) (e9 : Nat) : kc_V l yy_SR_end cd_SR_end 2 { frames := 1, cells := 0, slots := 0, locals := 21 } g [.ref h, .int (nI 0)] [oc_o h 0 [.ref tp, .ref wt, .ref ck, .ref sy, .ref sv, .ref rw, .ref lt], oc_o tp 8 [.ref tb, .int (nI 0)], oc_o wt 10 [.ref tp, .ref o, .ref x, .ref n, .ref d, .ref e9, .int (nI 900), .int (nI 0)]] (S := Unit) (fun _ => True) (fun _ => []) := by
  refine kc_Vof (by decide) (Nat.le_of_ble_eq_true rfl) ?_
  intro p e s m args below meth c A ls Q H locs hQ hB hP hS
  obtain ⟨hx, hb, hr, hlk, hin, hml, hown, hts, hA, hK, hD, hE, hl⟩ := hB
  have hF : xf_F g p m c cd_SR_end 2 s args "StackedRows" A := ⟨⟨hx, hb, hml, hown, hts⟩, hE, hK, hA⟩
  have hl : lv_has ls 2 [(0, .ref h), (1, .int (nI 0))] := hl
  have hown : s.vm.findClass "StackedRows" = some m.cls := hown
  refine lv_iload_n hx hb dd_SR_end_0 rfl (lv_at hl 1 rfl) ?_
  refine lv_if_lt (tgt := 15) hx hb dd_SR_end_1 rfl (fun h_1 => absurd h_1 (by decide)) (fun _ => ?_)
  refine lv_iload_n hx hb dd_SR_end_4 rfl (lv_at hl 1 rfl) ?_
  refine lv_aload_n hx hb dd_SR_end_5 rfl (lv_at hl 0 rfl) ?_
  refine gf_SR_12 hx hb hts hown hK hP 0 rfl rfl dd_SR_end_6 ?_
  refine xc_Vi (wr := [oc_o h 0 [.ref tp, .ref wt, .ref ck, .ref sy, .ref sv, .ref rw, .ref lt], oc_o wt 10 [.ref tp, .ref o, .ref x, .ref n, .ref d, .ref e9, .int (nI 900), .int (nI 0)]]) (k1 := 0) (k2 := 0) (As := []) (rest := [.int (nI 0)]) (k := 0) hF hP hD hS (ct_tape_size l g tp tb 0) (xt_V ml_SR_55 wi_TP_size wx_TP_size wn_TP wc_TP_size) (by decide) 1 rfl rfl rfl [1] [0, 2] ⟨rfl, rfl, by decide, by decide, by decide⟩ ⟨⟨Nat.le_of_ble_eq_true rfl, Nat.le_of_ble_eq_true rfl⟩, rfl, rfl, Nat.le_of_ble_eq_true rfl, Nat.le_of_ble_eq_true rfl⟩ rfl hl.1 rfl (Nat.le_of_ble_eq_true rfl) dd_SR_end_9 (fun r_2 u H locs hp hP hD hS => ?_)
  obtain rfl := hp
  have hP : va_P g.1 vwCl [oc_o h 0 [.ref tp, .ref wt, .ref ck, .ref sy, .ref sv, .ref rw, .ref lt], oc_o wt 10 [.ref tp, .ref o, .ref x, .ref n, .ref d, .ref e9, .int (nI 900), .int (nI 0)], oc_o tp 8 [.ref tb, .int (nI 0)]] H := hP
  have hD : va_D A [oc_o h 0 [.ref tp, .ref wt, .ref ck, .ref sy, .ref sv, .ref rw, .ref lt], oc_o wt 10 [.ref tp, .ref o, .ref x, .ref n, .ref d, .ref e9, .int (nI 900), .int (nI 0)], oc_o tp 8 [.ref tb, .int (nI 0)]] := hD
  refine lv_icmp_le (tgt := 23) hx hb dd_SR_end_12 rfl (fun _ => ?_) (fun h_3 => absurd (by decide) h_3)
  refine lv_aload_n hx hb dd_SR_end_23 rfl (lv_at hl 0 rfl) ?_
  refine gf_SR_12 hx hb hts hown hK hP 0 rfl rfl dd_SR_end_24 ?_
  refine lv_iload_n hx hb dd_SR_end_27 rfl (lv_at hl 1 rfl) ?_
  refine xc_Vv (wr := [oc_o h 0 [.ref tp, .ref wt, .ref ck, .ref sy, .ref sv, .ref rw, .ref lt], oc_o wt 10 [.ref tp, .ref o, .ref x, .ref n, .ref d, .ref e9, .int (nI 900), .int (nI 0)]]) (k1 := 0) (k2 := 0) (As := [.int (nI 0)]) (rest := []) (k := 1) hF hP hD hS (ct_tape_cut l g tp tb 0 (nI 0)) (xt_V ml_SR_72 wi_TP_cut wx_TP_cut wn_TP wc_TP_cut) (by decide) 2 rfl rfl rfl [2] [0, 1] ⟨rfl, rfl, by decide, by decide, by decide⟩ ⟨⟨Nat.le_of_ble_eq_true rfl, Nat.le_of_ble_eq_true rfl⟩, rfl, rfl, Nat.le_of_ble_eq_true rfl, Nat.le_of_ble_eq_true rfl⟩ rfl hl.1 rfl (Nat.le_of_ble_eq_true rfl) dd_SR_end_28 (fun u H locs hp hP hD hS => ?_)
  have hP : va_P g.1 vwCl [oc_o h 0 [.ref tp, .ref wt, .ref ck, .ref sy, .ref sv, .ref rw, .ref lt], oc_o wt 10 [.ref tp, .ref o, .ref x, .ref n, .ref d, .ref e9, .int (nI 900), .int (nI 0)], oc_o tp 8 [.ref tb, .int (nI 0)]] H := hP
  have hD : va_D A [oc_o h 0 [.ref tp, .ref wt, .ref ck, .ref sy, .ref sv, .ref rw, .ref lt], oc_o wt 10 [.ref tp, .ref o, .ref x, .ref n, .ref d, .ref e9, .int (nI 900), .int (nI 0)], oc_o tp 8 [.ref tb, .int (nI 0)]] := hD
  refine lv_aload_n hx hb dd_SR_end_31 rfl (lv_at hl 0 rfl) ?_
  refine gf_SR_21 hx hb hts hown hK hP 0 rfl rfl dd_SR_end_32 ?_
  refine xc_Vv (wr := [oc_o h 0 [.ref tp, .ref wt, .ref ck, .ref sy, .ref sv, .ref rw, .ref lt], oc_o tp 8 [.ref tb, .int (nI 0)]]) (k1 := 0) (k2 := 0) (As := []) (rest := []) (k := 0) hF hP hD hS (ct_wr_forget l g wt tp o x n d e9) (xt_V ml_SR_66 wi_WR_forget wx_WR_forget wn_WR wc_WR_forget) (by decide) 1 rfl rfl rfl [1] [0, 2] ⟨rfl, rfl, by decide, by decide, by decide⟩ ⟨⟨Nat.le_of_ble_eq_true rfl, Nat.le_of_ble_eq_true rfl⟩, rfl, rfl, Nat.le_of_ble_eq_true rfl, Nat.le_of_ble_eq_true rfl⟩ rfl hl.1 rfl (Nat.le_of_ble_eq_true rfl) dd_SR_end_35 (fun u H locs hp hP hD hS => ?_)
  have hP : va_P g.1 vwCl [oc_o h 0 [.ref tp, .ref wt, .ref ck, .ref sy, .ref sv, .ref rw, .ref lt], oc_o tp 8 [.ref tb, .int (nI 0)], oc_o wt 10 [.ref tp, .ref o, .ref x, .ref n, .ref d, .ref e9, .int (nI 900), .int (nI 0)]] H := hP
  have hD : va_D A [oc_o h 0 [.ref tp, .ref wt, .ref ck, .ref sy, .ref sv, .ref rw, .ref lt], oc_o tp 8 [.ref tb, .int (nI 0)], oc_o wt 10 [.ref tp, .ref o, .ref x, .ref n, .ref d, .ref e9, .int (nI 900), .int (nI 0)]] := hD
  exact xr_v hx hb hr hlk hQ hP hD hS () trivial [] (by decide) rfl (Nat.le_of_ble_eq_true rfl) (Nat.le_of_ble_eq_true rfl) dd_SR_end_38

set_option maxHeartbeats 4000000 in
set_option maxRecDepth 100000 in
theorem cf_endT (l : Launch) (htr : l.stackTraces = false) (g : xg_G) (h : Nat) (tp : Nat) (wt : Nat) (ck : Nat) (sy : Nat) (sv : Nat) (rw : Nat) (lt : Nat) (tb : Nat) (x1 : Int32) (qx : x1.toInt < 0 ∨ 0 < x1.toInt) : kc_T l yy_SR_end cd_SR_end 2 none { frames := 6, cells := 1, slots := 6, locals := 89 } g [.ref h, .int x1] [oc_o h 0 [.ref tp, .ref wt, .ref ck, .ref sy, .ref sv, .ref rw, .ref lt], oc_o tp 8 [.ref tb, .int (nI 0)]] "java/lang/IllegalArgumentException" := by
  refine kc_Tof (by decide) (Nat.le_of_ble_eq_true rfl) ?_
  intro p e s m args below meth c A ls Q H locs hQ hB hP hS hst
  obtain ⟨hx, hb, hr, hlk, hin, hml, hown, hts, hA, hK, hD, hE, hl⟩ := hB
  have hF : xf_F g p m c cd_SR_end 2 s args "StackedRows" A := ⟨⟨hx, hb, hml, hown, hts⟩, hE, hK, hA⟩
  have hl : lv_has ls 2 [(0, .ref h), (1, .int x1)] := hl
  have hown : s.vm.findClass "StackedRows" = some m.cls := hown
  refine lv_iload_n hx hb dd_SR_end_0 rfl (lv_at hl 1 rfl) ?_
  refine xb_r0lt (tgt := 15) hx hb dd_SR_end_1 rfl (fun h_1 => ?_) (fun h_1 => ?_)
  · exact xt_throw (names := ["java/lang/RuntimeException", "java/lang/Exception"]) tw_SR_69 (by decide +kernel) (by decide +kernel) cl_SR_69 wk_XA wn_XA htr hx hb hlk hts hown hE hst hS hml hl.1 hQ dd_SR_end_15 dd_SR_end_18 dd_SR_end_19 dd_SR_end_22 (Nat.le_of_ble_eq_true rfl) (Nat.le_of_ble_eq_true rfl) (Nat.le_of_ble_eq_true rfl) (Nat.le_of_ble_eq_true rfl) (Nat.le_of_ble_eq_true rfl) (Nat.le_of_ble_eq_true rfl)
  · refine lv_iload_n hx hb dd_SR_end_4 rfl (lv_at hl 1 rfl) ?_
    refine lv_aload_n hx hb dd_SR_end_5 rfl (lv_at hl 0 rfl) ?_
    refine gf_SR_12 hx hb hts hown hK hP 0 rfl rfl dd_SR_end_6 ?_
    refine xc_Vi (wr := [oc_o h 0 [.ref tp, .ref wt, .ref ck, .ref sy, .ref sv, .ref rw, .ref lt]]) (k1 := 0) (k2 := 0) (As := []) (rest := [.int x1]) (k := 0) hF hP hD hS (ct_tape_size l g tp tb 0) (xt_V ml_SR_55 wi_TP_size wx_TP_size wn_TP wc_TP_size) (by decide) 1 rfl rfl rfl [1] [0] ⟨rfl, rfl, by decide, by decide, by decide⟩ ⟨⟨Nat.le_of_ble_eq_true rfl, Nat.le_of_ble_eq_true rfl⟩, rfl, rfl, Nat.le_of_ble_eq_true rfl, Nat.le_of_ble_eq_true rfl⟩ rfl hl.1 rfl (Nat.le_of_ble_eq_true rfl) dd_SR_end_9 (fun r_2 u H locs hp hP hD hS => ?_)
    obtain rfl := hp
    have hP : va_P g.1 vwCl [oc_o h 0 [.ref tp, .ref wt, .ref ck, .ref sy, .ref sv, .ref rw, .ref lt], oc_o tp 8 [.ref tb, .int (nI 0)]] H := hP
    have hD : va_D A [oc_o h 0 [.ref tp, .ref wt, .ref ck, .ref sy, .ref sv, .ref rw, .ref lt], oc_o tp 8 [.ref tb, .int (nI 0)]] := hD
    refine xb_rle (tgt := 23) hx hb (by omega) dd_SR_end_12 rfl (fun h_3 => False.elim (by omega)) (fun h_3 => ?_)
    exact xt_throw (names := ["java/lang/RuntimeException", "java/lang/Exception"]) tw_SR_69 (by decide +kernel) (by decide +kernel) cl_SR_69 wk_XA wn_XA htr hx hb hlk hts hown hE hst hS hml hl.1 hQ dd_SR_end_15 dd_SR_end_18 dd_SR_end_19 dd_SR_end_22 (Nat.le_of_ble_eq_true rfl) (Nat.le_of_ble_eq_true rfl) (Nat.le_of_ble_eq_true rfl) (Nat.le_of_ble_eq_true rfl) (Nat.le_of_ble_eq_true rfl) (Nat.le_of_ble_eq_true rfl)

set_option maxHeartbeats 4000000 in
set_option maxRecDepth 100000 in
theorem cf_byteT (l : Launch) (htr : l.stackTraces = false) (g : xg_G) (h : Nat) (tp : Nat) (wt : Nat) (ck : Nat) (sy : Nat) (sv : Nat) (rw : Nat) (lt : Nat) (tb : Nat) (x1 : Int32) : kc_T l yy_SR_byteAt cd_SR_byteAt 2 (some .int) { frames := 6, cells := 1, slots := 6, locals := 89 } g [.ref h, .int x1] [oc_o h 0 [.ref tp, .ref wt, .ref ck, .ref sy, .ref sv, .ref rw, .ref lt], oc_o tp 8 [.ref tb, .int (nI 0)]] "java/lang/IndexOutOfBoundsException" := by
  refine kc_Tof (by decide) (Nat.le_of_ble_eq_true rfl) ?_
  intro p e s m args below meth c A ls Q H locs hQ hB hP hS hst
  obtain ⟨hx, hb, hr, hlk, hin, hml, hown, hts, hA, hK, hD, hE, hl⟩ := hB
  have hF : xf_F g p m c cd_SR_byteAt 2 s args "StackedRows" A := ⟨⟨hx, hb, hml, hown, hts⟩, hE, hK, hA⟩
  have hl : lv_has ls 2 [(0, .ref h), (1, .int x1)] := hl
  have hown : s.vm.findClass "StackedRows" = some m.cls := hown
  refine lv_iload_n hx hb dd_SR_byteAt_0 rfl (lv_at hl 1 rfl) ?_
  refine xb_r0lt (tgt := 15) hx hb dd_SR_byteAt_1 rfl (fun h_1 => ?_) (fun h_1 => ?_)
  · exact xt_throw (names := ["java/lang/RuntimeException", "java/lang/Exception"]) tw_SR_75 (by decide +kernel) (by decide +kernel) cl_SR_75 wk_XI wn_XI htr hx hb hlk hts hown hE hst hS hml hl.1 hQ dd_SR_byteAt_15 dd_SR_byteAt_18 dd_SR_byteAt_19 dd_SR_byteAt_22 (Nat.le_of_ble_eq_true rfl) (Nat.le_of_ble_eq_true rfl) (Nat.le_of_ble_eq_true rfl) (Nat.le_of_ble_eq_true rfl) (Nat.le_of_ble_eq_true rfl) (Nat.le_of_ble_eq_true rfl)
  · refine lv_iload_n hx hb dd_SR_byteAt_4 rfl (lv_at hl 1 rfl) ?_
    refine lv_aload_n hx hb dd_SR_byteAt_5 rfl (lv_at hl 0 rfl) ?_
    refine gf_SR_12 hx hb hts hown hK hP 0 rfl rfl dd_SR_byteAt_6 ?_
    refine xc_Vi (wr := [oc_o h 0 [.ref tp, .ref wt, .ref ck, .ref sy, .ref sv, .ref rw, .ref lt]]) (k1 := 0) (k2 := 0) (As := []) (rest := [.int x1]) (k := 0) hF hP hD hS (ct_tape_size l g tp tb 0) (xt_V ml_SR_55 wi_TP_size wx_TP_size wn_TP wc_TP_size) (by decide) 1 rfl rfl rfl [1] [0] ⟨rfl, rfl, by decide, by decide, by decide⟩ ⟨⟨Nat.le_of_ble_eq_true rfl, Nat.le_of_ble_eq_true rfl⟩, rfl, rfl, Nat.le_of_ble_eq_true rfl, Nat.le_of_ble_eq_true rfl⟩ rfl hl.1 rfl (Nat.le_of_ble_eq_true rfl) dd_SR_byteAt_9 (fun r_2 u H locs hp hP hD hS => ?_)
    obtain rfl := hp
    have hP : va_P g.1 vwCl [oc_o h 0 [.ref tp, .ref wt, .ref ck, .ref sy, .ref sv, .ref rw, .ref lt], oc_o tp 8 [.ref tb, .int (nI 0)]] H := hP
    have hD : va_D A [oc_o h 0 [.ref tp, .ref wt, .ref ck, .ref sy, .ref sv, .ref rw, .ref lt], oc_o tp 8 [.ref tb, .int (nI 0)]] := hD
    refine xb_rlt (tgt := 23) hx hb (by omega) dd_SR_byteAt_12 rfl (fun h_3 => False.elim (by omega)) (fun h_3 => ?_)
    exact xt_throw (names := ["java/lang/RuntimeException", "java/lang/Exception"]) tw_SR_75 (by decide +kernel) (by decide +kernel) cl_SR_75 wk_XI wn_XI htr hx hb hlk hts hown hE hst hS hml hl.1 hQ dd_SR_byteAt_15 dd_SR_byteAt_18 dd_SR_byteAt_19 dd_SR_byteAt_22 (Nat.le_of_ble_eq_true rfl) (Nat.le_of_ble_eq_true rfl) (Nat.le_of_ble_eq_true rfl) (Nat.le_of_ble_eq_true rfl) (Nat.le_of_ble_eq_true rfl) (Nat.le_of_ble_eq_true rfl)

set_option maxHeartbeats 4000000 in
set_option maxRecDepth 100000 in
theorem cf_words (l : Launch) (g : xg_G) (h : Nat) (tp : Nat) (wt : Nat) (ck : Nat) (sy : Nat) (sv : Nat) (rw : Nat) (lt : Nat) (tb : Nat) (o : Nat) (x : Nat) (n : Nat) (d : Nat) (e9 : Nat) (b : Nat) (v : Value) : kc_I l yy_SR_codewords cd_SR_codewords 1 .int { frames := 2, cells := 0, slots := 0, locals := 44 } g [.ref h] [oc_o h 0 [.ref tp, .ref wt, .ref ck, .ref sy, .ref sv, .ref rw, .ref lt], oc_o tp 8 [.ref tb, .int (nI 0)], oc_o wt 10 [.ref tp, .ref o, .ref x, .ref n, .ref d, .ref e9, .int (nI 900), .int (nI 0)], oc_o o 3 [.ref b, .int (nI 0)], oc_o x 9 [.ref o, v, .int (-1)], oc_i g d 1201 (fun _ => 0), oc_i g e9 1201 (fun _ => 0)] (S := Unit) (fun r0 _ => r0 = nI 0) (fun _ => []) := by
  refine kc_Iof (by decide) (Nat.le_of_ble_eq_true rfl) ?_
  intro p e s m args below meth c A ls Q H locs hQ hB hP hS
  obtain ⟨hx, hb, hr, hlk, hin, hml, hown, hts, hA, hK, hD, hE, hl⟩ := hB
  have hF : xf_F g p m c cd_SR_codewords 1 s args "StackedRows" A := ⟨⟨hx, hb, hml, hown, hts⟩, hE, hK, hA⟩
  have hl : lv_has ls 1 [(0, .ref h)] := hl
  have hown : s.vm.findClass "StackedRows" = some m.cls := hown
  refine lv_aload_n hx hb dd_SR_codewords_0 rfl (lv_at hl 0 rfl) ?_
  refine gf_SR_21 hx hb hts hown hK hP 0 rfl rfl dd_SR_codewords_1 ?_
  refine xc_Vv (wr := [oc_o h 0 [.ref tp, .ref wt, .ref ck, .ref sy, .ref sv, .ref rw, .ref lt]]) (k1 := 0) (k2 := 0) (As := []) (rest := []) (k := 0) hF hP hD hS (ct_wr_write l g wt tp o x n d e9 tb b v (fun _ => 0) (fun _ => 0)) (xt_V ml_SR_82 wi_WR_write wx_WR_write wn_WR wc_WR_write) (by decide) 2 rfl rfl rfl [2, 1, 3, 4, 5, 6] [0] ⟨rfl, rfl, by decide, by decide, by decide⟩ ⟨⟨Nat.le_of_ble_eq_true rfl, Nat.le_of_ble_eq_true rfl⟩, rfl, rfl, Nat.le_of_ble_eq_true rfl, Nat.le_of_ble_eq_true rfl⟩ rfl hl.1 rfl (Nat.le_of_ble_eq_true rfl) dd_SR_codewords_4 (fun u H locs hp hP hD hS => ?_)
  obtain ⟨v_1, f_2, f_3⟩ := u
  have hP : va_P g.1 vwCl [oc_o h 0 [.ref tp, .ref wt, .ref ck, .ref sy, .ref sv, .ref rw, .ref lt], oc_o wt 10 [.ref tp, .ref o, .ref x, .ref n, .ref d, .ref e9, .int (nI 900), .int (nI 1)], oc_o tp 8 [.ref tb, .int (nI 0)], oc_o o 3 [.ref b, .int (nI 0)], oc_o x 9 [.ref o, v_1, .int (-1)], oc_i g d 1201 f_2, oc_i g e9 1201 f_3] H := hP
  have hD : va_D A [oc_o h 0 [.ref tp, .ref wt, .ref ck, .ref sy, .ref sv, .ref rw, .ref lt], oc_o wt 10 [.ref tp, .ref o, .ref x, .ref n, .ref d, .ref e9, .int (nI 900), .int (nI 1)], oc_o tp 8 [.ref tb, .int (nI 0)], oc_o o 3 [.ref b, .int (nI 0)], oc_o x 9 [.ref o, v_1, .int (-1)], oc_i g d 1201 f_2, oc_i g e9 1201 f_3] := hD
  refine lv_aload_n hx hb dd_SR_codewords_7 rfl (lv_at hl 0 rfl) ?_
  refine gf_SR_21 hx hb hts hown hK hP 0 rfl rfl dd_SR_codewords_8 ?_
  refine xc_Vi (wr := [oc_o h 0 [.ref tp, .ref wt, .ref ck, .ref sy, .ref sv, .ref rw, .ref lt], oc_o tp 8 [.ref tb, .int (nI 0)], oc_o x 9 [.ref o, v_1, .int (-1)], oc_i g d 1201 f_2, oc_i g e9 1201 f_3]) (k1 := 0) (k2 := 0) (As := []) (rest := []) (k := 0) hF hP hD hS (ct_wr_size l g wt tp o x n d e9 b 0 (nI 1)) (xt_V ml_SR_85 wi_WR_size wx_WR_size wn_WR wc_WR_size) (by decide) 1 rfl rfl rfl [1, 3] [0, 2, 4, 5, 6] ⟨rfl, rfl, by decide, by decide, by decide⟩ ⟨⟨Nat.le_of_ble_eq_true rfl, Nat.le_of_ble_eq_true rfl⟩, rfl, rfl, Nat.le_of_ble_eq_true rfl, Nat.le_of_ble_eq_true rfl⟩ rfl hl.1 rfl (Nat.le_of_ble_eq_true rfl) dd_SR_codewords_11 (fun r_5 u H locs hp hP hD hS => ?_)
  obtain rfl := hp
  have hP : va_P g.1 vwCl [oc_o h 0 [.ref tp, .ref wt, .ref ck, .ref sy, .ref sv, .ref rw, .ref lt], oc_o tp 8 [.ref tb, .int (nI 0)], oc_o x 9 [.ref o, v_1, .int (-1)], oc_i g d 1201 f_2, oc_i g e9 1201 f_3, oc_o wt 10 [.ref tp, .ref o, .ref x, .ref n, .ref d, .ref e9, .int (nI 900), .int (nI 1)], oc_o o 3 [.ref b, .int (nI 0)]] H := hP
  have hD : va_D A [oc_o h 0 [.ref tp, .ref wt, .ref ck, .ref sy, .ref sv, .ref rw, .ref lt], oc_o tp 8 [.ref tb, .int (nI 0)], oc_o x 9 [.ref o, v_1, .int (-1)], oc_i g d 1201 f_2, oc_i g e9 1201 f_3, oc_o wt 10 [.ref tp, .ref o, .ref x, .ref n, .ref d, .ref e9, .int (nI 900), .int (nI 1)], oc_o o 3 [.ref b, .int (nI 0)]] := hD
  exact xr_i hx hb hr hlk hQ hP hD hS () (by first | rfl | exact congrArg nI (by omega)) [] (by decide) rfl rfl (Nat.le_of_ble_eq_true rfl) (Nat.le_of_ble_eq_true rfl) dd_SR_codewords_14

set_option maxHeartbeats 4000000 in
set_option maxRecDepth 100000 in
theorem cf_wordT (l : Launch) (htr : l.stackTraces = false) (g : xg_G) (h : Nat) (tp : Nat) (wt : Nat) (ck : Nat) (sy : Nat) (sv : Nat) (rw : Nat) (lt : Nat) (tb : Nat) (o : Nat) (x : Nat) (n : Nat) (d : Nat) (e9 : Nat) (b : Nat) (v : Value) (x1 : Int32) : kc_T l yy_SR_codeword cd_SR_codeword 2 (some .int) { frames := 6, cells := 1, slots := 6, locals := 89 } g [.ref h, .int x1] [oc_o h 0 [.ref tp, .ref wt, .ref ck, .ref sy, .ref sv, .ref rw, .ref lt], oc_o tp 8 [.ref tb, .int (nI 0)], oc_o wt 10 [.ref tp, .ref o, .ref x, .ref n, .ref d, .ref e9, .int (nI 900), .int (nI 0)], oc_o o 3 [.ref b, .int (nI 0)], oc_o x 9 [.ref o, v, .int (-1)], oc_i g d 1201 (fun _ => 0), oc_i g e9 1201 (fun _ => 0)] "java/lang/IndexOutOfBoundsException" := by
  refine kc_Tof (by decide) (Nat.le_of_ble_eq_true rfl) ?_
  intro p e s m args below meth c A ls Q H locs hQ hB hP hS hst
  obtain ⟨hx, hb, hr, hlk, hin, hml, hown, hts, hA, hK, hD, hE, hl⟩ := hB
  have hF : xf_F g p m c cd_SR_codeword 2 s args "StackedRows" A := ⟨⟨hx, hb, hml, hown, hts⟩, hE, hK, hA⟩
  have hl : lv_has ls 2 [(0, .ref h), (1, .int x1)] := hl
  have hown : s.vm.findClass "StackedRows" = some m.cls := hown
  refine lv_aload_n hx hb dd_SR_codeword_0 rfl (lv_at hl 0 rfl) ?_
  refine gf_SR_21 hx hb hts hown hK hP 0 rfl rfl dd_SR_codeword_1 ?_
  refine xc_Vv (wr := [oc_o h 0 [.ref tp, .ref wt, .ref ck, .ref sy, .ref sv, .ref rw, .ref lt]]) (k1 := 0) (k2 := 0) (As := []) (rest := []) (k := 0) hF hP hD hS (ct_wr_write l g wt tp o x n d e9 tb b v (fun _ => 0) (fun _ => 0)) (xt_V ml_SR_82 wi_WR_write wx_WR_write wn_WR wc_WR_write) (by decide) 2 rfl rfl rfl [2, 1, 3, 4, 5, 6] [0] ⟨rfl, rfl, by decide, by decide, by decide⟩ ⟨⟨Nat.le_of_ble_eq_true rfl, Nat.le_of_ble_eq_true rfl⟩, rfl, rfl, Nat.le_of_ble_eq_true rfl, Nat.le_of_ble_eq_true rfl⟩ rfl hl.1 rfl (Nat.le_of_ble_eq_true rfl) dd_SR_codeword_4 (fun u H locs hp hP hD hS => ?_)
  obtain ⟨v_1, f_2, f_3⟩ := u
  have hP : va_P g.1 vwCl [oc_o h 0 [.ref tp, .ref wt, .ref ck, .ref sy, .ref sv, .ref rw, .ref lt], oc_o wt 10 [.ref tp, .ref o, .ref x, .ref n, .ref d, .ref e9, .int (nI 900), .int (nI 1)], oc_o tp 8 [.ref tb, .int (nI 0)], oc_o o 3 [.ref b, .int (nI 0)], oc_o x 9 [.ref o, v_1, .int (-1)], oc_i g d 1201 f_2, oc_i g e9 1201 f_3] H := hP
  have hD : va_D A [oc_o h 0 [.ref tp, .ref wt, .ref ck, .ref sy, .ref sv, .ref rw, .ref lt], oc_o wt 10 [.ref tp, .ref o, .ref x, .ref n, .ref d, .ref e9, .int (nI 900), .int (nI 1)], oc_o tp 8 [.ref tb, .int (nI 0)], oc_o o 3 [.ref b, .int (nI 0)], oc_o x 9 [.ref o, v_1, .int (-1)], oc_i g d 1201 f_2, oc_i g e9 1201 f_3] := hD
  refine lv_iload_n hx hb dd_SR_codeword_7 rfl (lv_at hl 1 rfl) ?_
  refine xb_r0lt (tgt := 22) hx hb dd_SR_codeword_8 rfl (fun h_5 => ?_) (fun h_5 => ?_)
  · exact xt_throw (names := ["java/lang/RuntimeException", "java/lang/Exception"]) tw_SR_75 (by decide +kernel) (by decide +kernel) cl_SR_75 wk_XI wn_XI htr hx hb hlk hts hown hE hst hS hml hl.1 hQ dd_SR_codeword_22 dd_SR_codeword_25 dd_SR_codeword_26 dd_SR_codeword_29 (Nat.le_of_ble_eq_true rfl) (Nat.le_of_ble_eq_true rfl) (Nat.le_of_ble_eq_true rfl) (Nat.le_of_ble_eq_true rfl) (Nat.le_of_ble_eq_true rfl) (Nat.le_of_ble_eq_true rfl)
  · refine lv_iload_n hx hb dd_SR_codeword_11 rfl (lv_at hl 1 rfl) ?_
    refine lv_aload_n hx hb dd_SR_codeword_12 rfl (lv_at hl 0 rfl) ?_
    refine gf_SR_21 hx hb hts hown hK hP 0 rfl rfl dd_SR_codeword_13 ?_
    refine xc_Vi (wr := [oc_o h 0 [.ref tp, .ref wt, .ref ck, .ref sy, .ref sv, .ref rw, .ref lt], oc_o tp 8 [.ref tb, .int (nI 0)], oc_o x 9 [.ref o, v_1, .int (-1)], oc_i g d 1201 f_2, oc_i g e9 1201 f_3]) (k1 := 0) (k2 := 0) (As := []) (rest := [.int x1]) (k := 0) hF hP hD hS (ct_wr_size l g wt tp o x n d e9 b 0 (nI 1)) (xt_V ml_SR_85 wi_WR_size wx_WR_size wn_WR wc_WR_size) (by decide) 1 rfl rfl rfl [1, 3] [0, 2, 4, 5, 6] ⟨rfl, rfl, by decide, by decide, by decide⟩ ⟨⟨Nat.le_of_ble_eq_true rfl, Nat.le_of_ble_eq_true rfl⟩, rfl, rfl, Nat.le_of_ble_eq_true rfl, Nat.le_of_ble_eq_true rfl⟩ rfl hl.1 rfl (Nat.le_of_ble_eq_true rfl) dd_SR_codeword_16 (fun r_6 u H locs hp hP hD hS => ?_)
    obtain rfl := hp
    have hP : va_P g.1 vwCl [oc_o h 0 [.ref tp, .ref wt, .ref ck, .ref sy, .ref sv, .ref rw, .ref lt], oc_o tp 8 [.ref tb, .int (nI 0)], oc_o x 9 [.ref o, v_1, .int (-1)], oc_i g d 1201 f_2, oc_i g e9 1201 f_3, oc_o wt 10 [.ref tp, .ref o, .ref x, .ref n, .ref d, .ref e9, .int (nI 900), .int (nI 1)], oc_o o 3 [.ref b, .int (nI 0)]] H := hP
    have hD : va_D A [oc_o h 0 [.ref tp, .ref wt, .ref ck, .ref sy, .ref sv, .ref rw, .ref lt], oc_o tp 8 [.ref tb, .int (nI 0)], oc_o x 9 [.ref o, v_1, .int (-1)], oc_i g d 1201 f_2, oc_i g e9 1201 f_3, oc_o wt 10 [.ref tp, .ref o, .ref x, .ref n, .ref d, .ref e9, .int (nI 900), .int (nI 1)], oc_o o 3 [.ref b, .int (nI 0)]] := hD
    refine xb_rlt (tgt := 30) hx hb (by omega) dd_SR_codeword_19 rfl (fun h_7 => False.elim (by omega)) (fun h_7 => ?_)
    exact xt_throw (names := ["java/lang/RuntimeException", "java/lang/Exception"]) tw_SR_75 (by decide +kernel) (by decide +kernel) cl_SR_75 wk_XI wn_XI htr hx hb hlk hts hown hE hst hS hml hl.1 hQ dd_SR_codeword_22 dd_SR_codeword_25 dd_SR_codeword_26 dd_SR_codeword_29 (Nat.le_of_ble_eq_true rfl) (Nat.le_of_ble_eq_true rfl) (Nat.le_of_ble_eq_true rfl) (Nat.le_of_ble_eq_true rfl) (Nat.le_of_ble_eq_true rfl) (Nat.le_of_ble_eq_true rfl)

set_option maxHeartbeats 4000000 in
set_option maxRecDepth 100000 in
theorem cf_makeA (l : Launch) (htr : l.stackTraces = false) (g : xg_G) (h : Nat) (tp : Nat) (wt : Nat) (ck : Nat) (sy : Nat) (sv : Nat) (rw : Nat) (lt : Nat) (x1 : Int32) (x2 : Int32) (qx : x1.toInt < 0 ∨ 8 < x1.toInt ∨ x2.toInt < 1 ∨ 30 < x2.toInt) : kc_T l yy_SR_make cd_SR_make 6 (some .int) { frames := 6, cells := 1, slots := 6, locals := 89 } g [.ref h, .int x1, .int x2] [oc_o h 0 [.ref tp, .ref wt, .ref ck, .ref sy, .ref sv, .ref rw, .ref lt]] "java/lang/IllegalArgumentException" := by
  refine kc_Tof (by decide) (Nat.le_of_ble_eq_true rfl) ?_
  intro p e s m args below meth c A ls Q H locs hQ hB hP hS hst
  obtain ⟨hx, hb, hr, hlk, hin, hml, hown, hts, hA, hK, hD, hE, hl⟩ := hB
  have hF : xf_F g p m c cd_SR_make 6 s args "StackedRows" A := ⟨⟨hx, hb, hml, hown, hts⟩, hE, hK, hA⟩
  have hl : lv_has ls 6 [(0, .ref h), (1, .int x1), (2, .int x2)] := hl
  have hown : s.vm.findClass "StackedRows" = some m.cls := hown
  refine lv_iload_n hx hb dd_SR_make_0 rfl (lv_at hl 1 rfl) ?_
  refine xb_r0lt (tgt := 21) hx hb dd_SR_make_1 rfl (fun h_1 => ?_) (fun h_1 => ?_)
  · exact xt_throw (names := ["java/lang/RuntimeException", "java/lang/Exception"]) tw_SR_69 (by decide +kernel) (by decide +kernel) cl_SR_69 wk_XA wn_XA htr hx hb hlk hts hown hE hst hS hml hl.1 hQ dd_SR_make_21 dd_SR_make_24 dd_SR_make_25 dd_SR_make_28 (Nat.le_of_ble_eq_true rfl) (Nat.le_of_ble_eq_true rfl) (Nat.le_of_ble_eq_true rfl) (Nat.le_of_ble_eq_true rfl) (Nat.le_of_ble_eq_true rfl) (Nat.le_of_ble_eq_true rfl)
  · refine lv_iload_n hx hb dd_SR_make_4 rfl (lv_at hl 1 rfl) ?_
    refine lv_bipush (v := nI 8) hx hb dd_SR_make_5 (by decide) ?_
    refine xb_rgt (tgt := 21) hx hb (by omega) dd_SR_make_7 rfl (fun h_2 => ?_) (fun h_2 => ?_)
    · exact xt_throw (names := ["java/lang/RuntimeException", "java/lang/Exception"]) tw_SR_69 (by decide +kernel) (by decide +kernel) cl_SR_69 wk_XA wn_XA htr hx hb hlk hts hown hE hst hS hml hl.1 hQ dd_SR_make_21 dd_SR_make_24 dd_SR_make_25 dd_SR_make_28 (Nat.le_of_ble_eq_true rfl) (Nat.le_of_ble_eq_true rfl) (Nat.le_of_ble_eq_true rfl) (Nat.le_of_ble_eq_true rfl) (Nat.le_of_ble_eq_true rfl) (Nat.le_of_ble_eq_true rfl)
    · refine lv_iload_n hx hb dd_SR_make_10 rfl (lv_at hl 2 rfl) ?_
      refine lv_iconst (v := nI 1) hx hb dd_SR_make_11 (by decide) ?_
      refine xb_rlt (tgt := 21) hx hb (by omega) dd_SR_make_12 rfl (fun h_3 => ?_) (fun h_3 => ?_)
      · exact xt_throw (names := ["java/lang/RuntimeException", "java/lang/Exception"]) tw_SR_69 (by decide +kernel) (by decide +kernel) cl_SR_69 wk_XA wn_XA htr hx hb hlk hts hown hE hst hS hml hl.1 hQ dd_SR_make_21 dd_SR_make_24 dd_SR_make_25 dd_SR_make_28 (Nat.le_of_ble_eq_true rfl) (Nat.le_of_ble_eq_true rfl) (Nat.le_of_ble_eq_true rfl) (Nat.le_of_ble_eq_true rfl) (Nat.le_of_ble_eq_true rfl) (Nat.le_of_ble_eq_true rfl)
      · refine lv_iload_n hx hb dd_SR_make_15 rfl (lv_at hl 2 rfl) ?_
        refine lv_bipush (v := nI 30) hx hb dd_SR_make_16 (by decide) ?_
        refine xb_rle (tgt := 29) hx hb (by omega) dd_SR_make_18 rfl (fun h_4 => False.elim (by omega)) (fun h_4 => ?_)
        exact xt_throw (names := ["java/lang/RuntimeException", "java/lang/Exception"]) tw_SR_69 (by decide +kernel) (by decide +kernel) cl_SR_69 wk_XA wn_XA htr hx hb hlk hts hown hE hst hS hml hl.1 hQ dd_SR_make_21 dd_SR_make_24 dd_SR_make_25 dd_SR_make_28 (Nat.le_of_ble_eq_true rfl) (Nat.le_of_ble_eq_true rfl) (Nat.le_of_ble_eq_true rfl) (Nat.le_of_ble_eq_true rfl) (Nat.le_of_ble_eq_true rfl) (Nat.le_of_ble_eq_true rfl)

set_option maxHeartbeats 4000000 in
set_option maxRecDepth 100000 in
theorem cf_makeU (l : Launch) (htr : l.stackTraces = false) (g : xg_G) (h : Nat) (tp : Nat) (wt : Nat) (ck : Nat) (sy : Nat) (sv : Nat) (rw : Nat) (lt : Nat) (tb : Nat) (o : Nat) (x : Nat) (n : Nat) (d : Nat) (e9 : Nat) (b : Nat) (v : Value) (L : Nat) (cc : Nat) (K : Nat) (rr : Nat) (qL : L ≤ 8) (qK : K = 2 ^ (L + 1)) (qK2 : 2 ≤ K ∧ K ≤ 512) (qc : 1 ≤ cc) (qc2 : cc ≤ 30) (qr : rr = xr_hh (1 + K) cc) (qu : 90 < rr ∨ 928 < rr * cc) : kc_T l yy_SR_make cd_SR_make 6 (some .int) { frames := 6, cells := 1, slots := 6, locals := 89 } g [.ref h, .int (nI L), .int (nI cc)] [oc_o h 0 [.ref tp, .ref wt, .ref ck, .ref sy, .ref sv, .ref rw, .ref lt], oc_o tp 8 [.ref tb, .int (nI 0)], oc_o wt 10 [.ref tp, .ref o, .ref x, .ref n, .ref d, .ref e9, .int (nI 900), .int (nI 0)], oc_o o 3 [.ref b, .int (nI 0)], oc_o x 9 [.ref o, v, .int (-1)], oc_i g d 1201 (fun _ => 0), oc_i g e9 1201 (fun _ => 0)] "java/lang/UnsupportedOperationException" := by
  refine kc_Tof (by decide) (Nat.le_of_ble_eq_true rfl) ?_
  intro p e s m args below meth c A ls Q H locs hQ hB hP hS hst
  obtain ⟨hx, hb, hr, hlk, hin, hml, hown, hts, hA, hK, hD, hE, hl⟩ := hB
  have hF : xf_F g p m c cd_SR_make 6 s args "StackedRows" A := ⟨⟨hx, hb, hml, hown, hts⟩, hE, hK, hA⟩
  have hl : lv_has ls 6 [(0, .ref h), (1, .int (nI L)), (2, .int (nI cc))] := hl
  have hown : s.vm.findClass "StackedRows" = some m.cls := hown
  refine lv_iload_n hx hb dd_SR_make_0 rfl (lv_at hl 1 rfl) ?_
  refine xb_zlt (tgt := 21) hx hb (by omega) dd_SR_make_1 rfl ?_
  refine lv_iload_n hx hb dd_SR_make_4 rfl (lv_at hl 1 rfl) ?_
  refine lv_bipush (v := nI 8) hx hb dd_SR_make_5 (by decide) ?_
  refine xb_gt (tgt := 21) hx hb (by omega) (by omega) dd_SR_make_7 rfl (fun h_1 => False.elim (by omega)) (fun h_1 => ?_)
  refine lv_iload_n hx hb dd_SR_make_10 rfl (lv_at hl 2 rfl) ?_
  refine lv_iconst (v := nI 1) hx hb dd_SR_make_11 (by decide) ?_
  refine xb_lt (tgt := 21) hx hb (by omega) (by omega) dd_SR_make_12 rfl (fun h_2 => False.elim (by omega)) (fun h_2 => ?_)
  refine lv_iload_n hx hb dd_SR_make_15 rfl (lv_at hl 2 rfl) ?_
  refine lv_bipush (v := nI 30) hx hb dd_SR_make_16 (by decide) ?_
  refine xb_le (tgt := 29) hx hb (by omega) (by omega) dd_SR_make_18 rfl (fun h_3 => ?_) (fun h_3 => False.elim (by omega))
  refine lv_aload_n hx hb dd_SR_make_29 rfl (lv_at hl 0 rfl) ?_
  refine gf_SR_21 hx hb hts hown hK hP 0 rfl rfl dd_SR_make_30 ?_
  refine xc_Vv (wr := [oc_o h 0 [.ref tp, .ref wt, .ref ck, .ref sy, .ref sv, .ref rw, .ref lt]]) (k1 := 0) (k2 := 0) (As := []) (rest := []) (k := 0) hF hP hD hS (ct_wr_write l g wt tp o x n d e9 tb b v (fun _ => 0) (fun _ => 0)) (xt_V ml_SR_82 wi_WR_write wx_WR_write wn_WR wc_WR_write) (by decide) 2 rfl rfl rfl [2, 1, 3, 4, 5, 6] [0] ⟨rfl, rfl, by decide, by decide, by decide⟩ ⟨⟨Nat.le_of_ble_eq_true rfl, Nat.le_of_ble_eq_true rfl⟩, rfl, rfl, Nat.le_of_ble_eq_true rfl, Nat.le_of_ble_eq_true rfl⟩ rfl hl.1 rfl (Nat.le_of_ble_eq_true rfl) dd_SR_make_33 (fun u H locs hp hP hD hS => ?_)
  obtain ⟨v_4, f_5, f_6⟩ := u
  have hP : va_P g.1 vwCl [oc_o h 0 [.ref tp, .ref wt, .ref ck, .ref sy, .ref sv, .ref rw, .ref lt], oc_o wt 10 [.ref tp, .ref o, .ref x, .ref n, .ref d, .ref e9, .int (nI 900), .int (nI 1)], oc_o tp 8 [.ref tb, .int (nI 0)], oc_o o 3 [.ref b, .int (nI 0)], oc_o x 9 [.ref o, v_4, .int (-1)], oc_i g d 1201 f_5, oc_i g e9 1201 f_6] H := hP
  have hD : va_D A [oc_o h 0 [.ref tp, .ref wt, .ref ck, .ref sy, .ref sv, .ref rw, .ref lt], oc_o wt 10 [.ref tp, .ref o, .ref x, .ref n, .ref d, .ref e9, .int (nI 900), .int (nI 1)], oc_o tp 8 [.ref tb, .int (nI 0)], oc_o o 3 [.ref b, .int (nI 0)], oc_o x 9 [.ref o, v_4, .int (-1)], oc_i g d 1201 f_5, oc_i g e9 1201 f_6] := hD
  refine lv_iload_n hx hb dd_SR_make_36 rfl (lv_at hl 1 rfl) ?_
  refine xc_Si (wr := [oc_o h 0 [.ref tp, .ref wt, .ref ck, .ref sy, .ref sv, .ref rw, .ref lt], oc_o wt 10 [.ref tp, .ref o, .ref x, .ref n, .ref d, .ref e9, .int (nI 900), .int (nI 1)], oc_o tp 8 [.ref tb, .int (nI 0)], oc_o o 3 [.ref b, .int (nI 0)], oc_o x 9 [.ref o, v_4, .int (-1)], oc_i g d 1201 f_5, oc_i g e9 1201 f_6]) (k1 := 0) (k2 := 0) (As := [.int (nI L)]) (rest := []) (k := 1) hF hP hD hS (ct_chk l g L K (qL) (qK)) wc_SR_checksOf wn_SR ml_SR_87 wz_SR_checksOf (by decide) [] [0, 1, 2, 3, 4, 5, 6] ⟨rfl, rfl, by decide, by decide, by decide⟩ ⟨⟨Nat.le_of_ble_eq_true rfl, Nat.le_of_ble_eq_true rfl⟩, rfl, rfl, Nat.le_of_ble_eq_true rfl, Nat.le_of_ble_eq_true rfl⟩ rfl hl.1 rfl (Nat.le_of_ble_eq_true rfl) dd_SR_make_37 (fun r_8 u H locs hp hP hD hS => ?_)
  obtain rfl := hp
  have hP : va_P g.1 vwCl [oc_o h 0 [.ref tp, .ref wt, .ref ck, .ref sy, .ref sv, .ref rw, .ref lt], oc_o wt 10 [.ref tp, .ref o, .ref x, .ref n, .ref d, .ref e9, .int (nI 900), .int (nI 1)], oc_o tp 8 [.ref tb, .int (nI 0)], oc_o o 3 [.ref b, .int (nI 0)], oc_o x 9 [.ref o, v_4, .int (-1)], oc_i g d 1201 f_5, oc_i g e9 1201 f_6] H := hP
  have hD : va_D A [oc_o h 0 [.ref tp, .ref wt, .ref ck, .ref sy, .ref sv, .ref rw, .ref lt], oc_o wt 10 [.ref tp, .ref o, .ref x, .ref n, .ref d, .ref e9, .int (nI 900), .int (nI 1)], oc_o tp 8 [.ref tb, .int (nI 0)], oc_o o 3 [.ref b, .int (nI 0)], oc_o x 9 [.ref o, v_4, .int (-1)], oc_i g d 1201 f_5, oc_i g e9 1201 f_6] := hD
  refine lv_istore_n (lv' := [(3, .int (nI K)), (0, .ref h), (1, .int (nI L)), (2, .int (nI cc))]) hx hb dd_SR_make_40 rfl hl (by decide) rfl (fun ls hl => ?_)
  refine lv_iconst (v := nI 1) hx hb dd_SR_make_41 (by decide) ?_
  refine lv_aload_n hx hb dd_SR_make_42 rfl (lv_at hl 1 rfl) ?_
  refine gf_SR_21 hx hb hts hown hK hP 0 rfl rfl dd_SR_make_43 ?_
  refine xc_Vi (wr := [oc_o h 0 [.ref tp, .ref wt, .ref ck, .ref sy, .ref sv, .ref rw, .ref lt], oc_o tp 8 [.ref tb, .int (nI 0)], oc_o x 9 [.ref o, v_4, .int (-1)], oc_i g d 1201 f_5, oc_i g e9 1201 f_6]) (k1 := 0) (k2 := 0) (As := []) (rest := [.int (nI 1)]) (k := 0) hF hP hD hS (ct_wr_size l g wt tp o x n d e9 b 0 (nI 1)) (xt_V ml_SR_85 wi_WR_size wx_WR_size wn_WR wc_WR_size) (by decide) 1 rfl rfl rfl [1, 3] [0, 2, 4, 5, 6] ⟨rfl, rfl, by decide, by decide, by decide⟩ ⟨⟨Nat.le_of_ble_eq_true rfl, Nat.le_of_ble_eq_true rfl⟩, rfl, rfl, Nat.le_of_ble_eq_true rfl, Nat.le_of_ble_eq_true rfl⟩ rfl hl.1 rfl (Nat.le_of_ble_eq_true rfl) dd_SR_make_46 (fun r_9 u H locs hp hP hD hS => ?_)
  obtain rfl := hp
  have hP : va_P g.1 vwCl [oc_o h 0 [.ref tp, .ref wt, .ref ck, .ref sy, .ref sv, .ref rw, .ref lt], oc_o tp 8 [.ref tb, .int (nI 0)], oc_o x 9 [.ref o, v_4, .int (-1)], oc_i g d 1201 f_5, oc_i g e9 1201 f_6, oc_o wt 10 [.ref tp, .ref o, .ref x, .ref n, .ref d, .ref e9, .int (nI 900), .int (nI 1)], oc_o o 3 [.ref b, .int (nI 0)]] H := hP
  have hD : va_D A [oc_o h 0 [.ref tp, .ref wt, .ref ck, .ref sy, .ref sv, .ref rw, .ref lt], oc_o tp 8 [.ref tb, .int (nI 0)], oc_o x 9 [.ref o, v_4, .int (-1)], oc_i g d 1201 f_5, oc_i g e9 1201 f_6, oc_o wt 10 [.ref tp, .ref o, .ref x, .ref n, .ref d, .ref e9, .int (nI 900), .int (nI 1)], oc_o o 3 [.ref b, .int (nI 0)]] := hD
  refine xi_iadd hx hb dd_SR_make_49 ?_
  refine lv_iload_n hx hb dd_SR_make_50 rfl (lv_at hl 0 rfl) ?_
  refine xi_iadd hx hb dd_SR_make_51 ?_
  refine lv_iload_n hx hb dd_SR_make_52 rfl (lv_at hl 3 rfl) ?_
  obtain ⟨r9, q91⟩ : ∃ r9, r9 = xr_min (1 + K) cc := ⟨_, rfl⟩
  have q92 := xr_cap qr q91
  refine xc_Si (wr := [oc_o h 0 [.ref tp, .ref wt, .ref ck, .ref sy, .ref sv, .ref rw, .ref lt], oc_o tp 8 [.ref tb, .int (nI 0)], oc_o x 9 [.ref o, v_4, .int (-1)], oc_i g d 1201 f_5, oc_i g e9 1201 f_6, oc_o wt 10 [.ref tp, .ref o, .ref x, .ref n, .ref d, .ref e9, .int (nI 900), .int (nI 1)], oc_o o 3 [.ref b, .int (nI 0)]]) (k1 := 0) (k2 := 0) (As := [.int (nI (1 + K)), .int (nI cc)]) (rest := []) (k := 2) hF hP hD hS (ct_rows l g (1 + K) cc r9 (by omega) (by omega) (by omega) (q91)) wc_SR_rowsFor wn_SR ml_SR_90 wz_SR_rowsFor (by decide) [] [0, 1, 2, 3, 4, 5, 6] ⟨rfl, rfl, by decide, by decide, by decide⟩ ⟨⟨Nat.le_of_ble_eq_true rfl, Nat.le_of_ble_eq_true rfl⟩, rfl, rfl, Nat.le_of_ble_eq_true rfl, Nat.le_of_ble_eq_true rfl⟩ rfl hl.1 rfl (Nat.le_of_ble_eq_true rfl) dd_SR_make_53 (fun r_10 u H locs hp hP hD hS => ?_)
  obtain rfl := hp
  have hP : va_P g.1 vwCl [oc_o h 0 [.ref tp, .ref wt, .ref ck, .ref sy, .ref sv, .ref rw, .ref lt], oc_o tp 8 [.ref tb, .int (nI 0)], oc_o x 9 [.ref o, v_4, .int (-1)], oc_i g d 1201 f_5, oc_i g e9 1201 f_6, oc_o wt 10 [.ref tp, .ref o, .ref x, .ref n, .ref d, .ref e9, .int (nI 900), .int (nI 1)], oc_o o 3 [.ref b, .int (nI 0)]] H := hP
  have hD : va_D A [oc_o h 0 [.ref tp, .ref wt, .ref ck, .ref sy, .ref sv, .ref rw, .ref lt], oc_o tp 8 [.ref tb, .int (nI 0)], oc_o x 9 [.ref o, v_4, .int (-1)], oc_i g d 1201 f_5, oc_i g e9 1201 f_6, oc_o wt 10 [.ref tp, .ref o, .ref x, .ref n, .ref d, .ref e9, .int (nI 900), .int (nI 1)], oc_o o 3 [.ref b, .int (nI 0)]] := hD
  refine lv_istore (lv' := [(4, .int (nI r9)), (3, .int (nI K)), (0, .ref h), (1, .int (nI L)), (2, .int (nI cc))]) hx hb dd_SR_make_56 hl (by decide) rfl (fun ls hl => ?_)
  refine lv_iload hx hb dd_SR_make_58 (lv_at hl 0 rfl) ?_
  refine lv_iload_n hx hb dd_SR_make_60 rfl (lv_at hl 4 rfl) ?_
  have q93 : r9 * cc ≤ 91 * 30 := Nat.mul_le_mul (by omega) qc2
  refine xi_imul hx hb dd_SR_make_61 ?_
  refine lv_istore (lv' := [(5, .int (nI (r9 * cc))), (4, .int (nI r9)), (3, .int (nI K)), (0, .ref h), (1, .int (nI L)), (2, .int (nI cc))]) hx hb dd_SR_make_62 hl (by decide) rfl (fun ls hl => ?_)
  refine lv_iload hx hb dd_SR_make_64 (lv_at hl 1 rfl) ?_
  refine lv_bipush (v := nI 90) hx hb dd_SR_make_66 (by decide) ?_
  refine xb_gt (tgt := 79) hx hb (by omega) (by omega) dd_SR_make_68 rfl (fun qa9 => ?_) (fun qa9 => ?_)
  · exact xt_throw (names := ["java/lang/RuntimeException", "java/lang/Exception"]) tw_SR_59 (by decide +kernel) (by decide +kernel) cl_SR_59 wk_XU wn_XU htr hx hb hlk hts hown hE hst hS hml hl.1 hQ dd_SR_make_79 dd_SR_make_82 dd_SR_make_83 dd_SR_make_86 (Nat.le_of_ble_eq_true rfl) (Nat.le_of_ble_eq_true rfl) (Nat.le_of_ble_eq_true rfl) (Nat.le_of_ble_eq_true rfl) (Nat.le_of_ble_eq_true rfl) (Nat.le_of_ble_eq_true rfl)
  · refine lv_iload hx hb dd_SR_make_71 (lv_at hl 0 rfl) ?_
    refine lv_sipush (v := nI 928) hx hb dd_SR_make_73 (by decide) ?_
    refine xb_le (tgt := 87) hx hb (by omega) (by omega) dd_SR_make_76 rfl (fun qb9 => False.elim (by rcases q92 with ⟨q94, q95⟩ | ⟨q94, q95⟩ <;> first | omega | (subst q95; omega))) (fun qb9 => ?_)
    exact xt_throw (names := ["java/lang/RuntimeException", "java/lang/Exception"]) tw_SR_59 (by decide +kernel) (by decide +kernel) cl_SR_59 wk_XU wn_XU htr hx hb hlk hts hown hE hst hS hml hl.1 hQ dd_SR_make_79 dd_SR_make_82 dd_SR_make_83 dd_SR_make_86 (Nat.le_of_ble_eq_true rfl) (Nat.le_of_ble_eq_true rfl) (Nat.le_of_ble_eq_true rfl) (Nat.le_of_ble_eq_true rfl) (Nat.le_of_ble_eq_true rfl) (Nat.le_of_ble_eq_true rfl)

set_option maxHeartbeats 4000000 in
set_option maxRecDepth 100000 in
theorem ct_fillRow (l : Launch) (g : xg_G) (h : Nat) (tp : Nat) (wt : Nat) (ck : Nat) (sy : Nat) (sv : Nat) (rw : Nat) (lt : Nat) (o : Nat) (x : Nat) (n : Nat) (d : Nat) (e9 : Nat) (b : Nat) (nn : Nat) (f : Nat → Int32) (qn : 1 ≤ nn) (qn2 : nn ≤ 928) : kc_V l yy_SR_fillRow cd_SR_fillRow 3 { frames := 2, cells := 0, slots := 0, locals := 40 } g [.ref h, .int (nI nn)] [oc_o h 0 [.ref tp, .ref wt, .ref ck, .ref sy, .ref sv, .ref rw, .ref lt], oc_o wt 10 [.ref tp, .ref o, .ref x, .ref n, .ref d, .ref e9, .int (nI 900), .int (nI 1)], oc_o o 3 [.ref b, .int (nI 0)], oc_i g rw 928 f] (S := (Nat → Int32)) (fun _ => True) (fun u0 => [oc_o h 0 [.ref tp, .ref wt, .ref ck, .ref sy, .ref sv, .ref rw, .ref lt], oc_o wt 10 [.ref tp, .ref o, .ref x, .ref n, .ref d, .ref e9, .int (nI 900), .int (nI 1)], oc_o o 3 [.ref b, .int (nI 0)], oc_i g rw 928 u0]) := by
  refine kc_Vof (by decide) (Nat.le_of_ble_eq_true rfl) ?_
  intro p e s m args below meth c A ls Q H locs hQ hB hP hS
  obtain ⟨hx, hb, hr, hlk, hin, hml, hown, hts, hA, hK, hD, hE, hl⟩ := hB
  have hF : xf_F g p m c cd_SR_fillRow 3 s args "StackedRows" A := ⟨⟨hx, hb, hml, hown, hts⟩, hE, hK, hA⟩
  have hl : lv_has ls 3 [(0, .ref h), (1, .int (nI nn))] := hl
  have hown : s.vm.findClass "StackedRows" = some m.cls := hown
  refine lv_aload_n hx hb dd_SR_fillRow_0 rfl (lv_at hl 0 rfl) ?_
  refine gf_SR_39 hx hb hts hown hK hP 0 rfl rfl dd_SR_fillRow_1 ?_
  refine lv_iconst (v := nI 0) hx hb dd_SR_fillRow_4 (by decide) ?_
  refine lv_iload_n hx hb dd_SR_fillRow_5 rfl (lv_at hl 1 rfl) ?_
  refine xa_st hx hb hK hP hD hS 3 rfl (j := 0) (by omega) (by omega) dd_SR_fillRow_6 (fun f_1 H locs hP hD hS => ?_)
  have hP : va_P g.1 vwCl [oc_o h 0 [.ref tp, .ref wt, .ref ck, .ref sy, .ref sv, .ref rw, .ref lt], oc_o wt 10 [.ref tp, .ref o, .ref x, .ref n, .ref d, .ref e9, .int (nI 900), .int (nI 1)], oc_o o 3 [.ref b, .int (nI 0)], oc_i g rw 928 f_1] H := hP
  have hD : va_D A [oc_o h 0 [.ref tp, .ref wt, .ref ck, .ref sy, .ref sv, .ref rw, .ref lt], oc_o wt 10 [.ref tp, .ref o, .ref x, .ref n, .ref d, .ref e9, .int (nI 900), .int (nI 1)], oc_o o 3 [.ref b, .int (nI 0)], oc_i g rw 928 f_1] := hD
  refine lv_iconst (v := nI 1) hx hb dd_SR_fillRow_7 (by decide) ?_
  refine lv_istore_n (lv' := [(2, .int (nI 1)), (0, .ref h), (1, .int (nI nn))]) hx hb dd_SR_fillRow_8 rfl hl (by decide) rfl (fun ls hl => ?_)
  have lp_2 : ∀ (n2 : Nat) (i : Nat) (f : Nat → Int32) (H : Heap) (locs : List Loc) (ls : Array Slot), nn - i = n2 → (1 ≤ i) → (i ≤ nn) → lv_has ls 3 [(0, .ref h), (1, .int (nI nn)), (2, .int (nI i))] → va_P g.1 vwCl [oc_o h 0 [.ref tp, .ref wt, .ref ck, .ref sy, .ref sv, .ref rw, .ref lt], oc_o wt 10 [.ref tp, .ref o, .ref x, .ref n, .ref d, .ref e9, .int (nI 900), .int (nI 1)], oc_o o 3 [.ref b, .int (nI 0)], oc_i g rw 928 f] H → va_D A [oc_o h 0 [.ref tp, .ref wt, .ref ck, .ref sy, .ref sv, .ref rw, .ref lt], oc_o wt 10 [.ref tp, .ref o, .ref x, .ref n, .ref d, .ref e9, .int (nI 900), .int (nI 1)], oc_o o 3 [.ref b, .int (nI 0)], oc_i g rw 928 f] → va_S A s.heap H locs → W p l e { frames := 2, cells := 0, slots := 0, locals := 40 } s m args below meth c H locs 0 0 Q (F0 m 9 ls []) := by
    intro n2
    induction n2 using Nat.strongRecOn with
    | _ n2 ih2 =>
    intro i f H locs ls hmn2 qi qi2 hl hP hD hS
    refine lv_iload_n hx hb dd_SR_fillRow_9 rfl (lv_at hl 2 rfl) ?_
    refine lv_iload_n hx hb dd_SR_fillRow_10 rfl (lv_at hl 1 rfl) ?_
    refine xb_ge (tgt := 53) hx hb (by omega) (by omega) dd_SR_fillRow_11 rfl (fun h_3 => ?_) (fun h_3 => ?_)
    · exact xr_v hx hb hr hlk hQ hP hD hS (f) trivial [0, 1, 2, 3] (by decide) rfl (Nat.le_of_ble_eq_true rfl) (Nat.le_of_ble_eq_true rfl) dd_SR_fillRow_53
    · refine lv_aload_n hx hb dd_SR_fillRow_14 rfl (lv_at hl 0 rfl) ?_
      refine gf_SR_39 hx hb hts hown hK hP 0 rfl rfl dd_SR_fillRow_15 ?_
      refine lv_iload_n hx hb dd_SR_fillRow_18 rfl (lv_at hl 2 rfl) ?_
      refine lv_iload_n hx hb dd_SR_fillRow_19 rfl (lv_at hl 2 rfl) ?_
      refine lv_aload_n hx hb dd_SR_fillRow_20 rfl (lv_at hl 0 rfl) ?_
      refine gf_SR_21 hx hb hts hown hK hP 0 rfl rfl dd_SR_fillRow_21 ?_
      refine xc_Vi (wr := [oc_o h 0 [.ref tp, .ref wt, .ref ck, .ref sy, .ref sv, .ref rw, .ref lt], oc_i g rw 928 f]) (k1 := 0) (k2 := 0) (As := []) (rest := [.int (nI i), .int (nI i), .ref rw]) (k := 0) hF hP hD hS (ct_wr_size l g wt tp o x n d e9 b 0 (nI 1)) (xt_V ml_SR_85 wi_WR_size wx_WR_size wn_WR wc_WR_size) (by decide) 1 rfl rfl rfl [1, 2] [0, 3] ⟨rfl, rfl, by decide, by decide, by decide⟩ ⟨⟨Nat.le_of_ble_eq_true rfl, Nat.le_of_ble_eq_true rfl⟩, rfl, rfl, Nat.le_of_ble_eq_true rfl, Nat.le_of_ble_eq_true rfl⟩ rfl hl.1 rfl (Nat.le_of_ble_eq_true rfl) dd_SR_fillRow_24 (fun r_4 u H locs hp hP hD hS => ?_)
      obtain rfl := hp
      have hP : va_P g.1 vwCl [oc_o h 0 [.ref tp, .ref wt, .ref ck, .ref sy, .ref sv, .ref rw, .ref lt], oc_i g rw 928 f, oc_o wt 10 [.ref tp, .ref o, .ref x, .ref n, .ref d, .ref e9, .int (nI 900), .int (nI 1)], oc_o o 3 [.ref b, .int (nI 0)]] H := hP
      have hD : va_D A [oc_o h 0 [.ref tp, .ref wt, .ref ck, .ref sy, .ref sv, .ref rw, .ref lt], oc_i g rw 928 f, oc_o wt 10 [.ref tp, .ref o, .ref x, .ref n, .ref d, .ref e9, .int (nI 900), .int (nI 1)], oc_o o 3 [.ref b, .int (nI 0)]] := hD
      refine xb_gt (tgt := 43) hx hb (by omega) (by omega) dd_SR_fillRow_27 rfl (fun h_5 => ?_) (fun h_5 => False.elim (by omega))
      refine lv_sipush (v := nI 900) hx hb dd_SR_fillRow_43 (by decide) ?_
      refine xa_st hx hb hK hP hD hS 1 rfl (j := i) (by omega) (by omega) dd_SR_fillRow_46 (fun f_6 H locs hP hD hS => ?_)
      have hP : va_P g.1 vwCl [oc_o h 0 [.ref tp, .ref wt, .ref ck, .ref sy, .ref sv, .ref rw, .ref lt], oc_i g rw 928 f_6, oc_o wt 10 [.ref tp, .ref o, .ref x, .ref n, .ref d, .ref e9, .int (nI 900), .int (nI 1)], oc_o o 3 [.ref b, .int (nI 0)]] H := hP
      have hD : va_D A [oc_o h 0 [.ref tp, .ref wt, .ref ck, .ref sy, .ref sv, .ref rw, .ref lt], oc_i g rw 928 f_6, oc_o wt 10 [.ref tp, .ref o, .ref x, .ref n, .ref d, .ref e9, .int (nI 900), .int (nI 1)], oc_o o 3 [.ref b, .int (nI 0)]] := hD
      refine lv_iinc (k := 2) (lv' := [(2, .int (nI (i + 1))), (0, .ref h), (1, .int (nI nn))]) hx hb dd_SR_fillRow_47 hl rfl (xi_inc _) (by decide) rfl (fun ls hl => ?_)
      refine lv_goto (tgt := 9) hx hb dd_SR_fillRow_50 rfl ?_
      exact ih2 _ (by omega) (i + 1) f_6 H locs ls rfl (by omega) (by omega) (lv_sub hl [1, 2, 0] rfl) (hP.sub [0, 2, 3, 1] rfl) (hD.sub [0, 2, 3, 1] (by decide) rfl) hS
  exact lp_2 _ 1 f_1 H locs ls rfl (by omega) (by omega) (lv_sub hl [1, 2, 0] rfl) (hP.sub [0, 1, 2, 3] rfl) (hD.sub [0, 1, 2, 3] (by decide) rfl) hS

set_option maxHeartbeats 4000000 in
set_option maxRecDepth 100000 in
theorem cf_make (l : Launch) (g : xg_G) (h : Nat) (tp : Nat) (wt : Nat) (ck : Nat) (sy : Nat) (sv : Nat) (rw : Nat) (lt : Nat) (tb : Nat) (o : Nat) (x : Nat) (n : Nat) (d : Nat) (e9 : Nat) (b : Nat) (v : Value) (fc : Nat) (p9 : Nat) (L : Nat) (cc : Nat) (K : Nat) (rr : Nat) (qL : L ≤ 8) (qK : K = 2 ^ (L + 1)) (qK2 : 2 ≤ K ∧ K ≤ 512) (qc : 1 ≤ cc) (qc2 : cc ≤ 30) (qr : rr = xr_hh (1 + K) cc) (qr2 : 3 ≤ rr ∧ rr ≤ 90) (qn : rr * cc ≤ 928) (qn2 : K + 1 ≤ rr * cc) : kc_I l yy_SR_make cd_SR_make 6 .int { frames := 3, cells := 0, slots := 0, locals := 70 } g [.ref h, .int (nI L), .int (nI cc)] [oc_o h 0 [.ref tp, .ref wt, .ref ck, .ref sy, .ref sv, .ref rw, .ref lt], oc_o tp 8 [.ref tb, .int (nI 0)], oc_o wt 10 [.ref tp, .ref o, .ref x, .ref n, .ref d, .ref e9, .int (nI 900), .int (nI 0)], oc_o o 3 [.ref b, .int (nI 0)], oc_o x 9 [.ref o, v, .int (-1)], oc_i g d 1201 (fun _ => 0), oc_i g e9 1201 (fun _ => 0), oc_o ck 2 [.ref fc], oc_i g fc 513 (fun _ => 0), oc_o sy 7 [.ref p9, .int (nI 0), .int (nI 0)], oc_i g p9 1108 (fun _ => 0), oc_i g rw 928 (fun _ => 0)] (S := Unit) (fun r0 _ => r0 = nI rr) (fun _ => []) := by
  refine kc_Iof (by decide) (Nat.le_of_ble_eq_true rfl) ?_
  intro p e s m args below meth c A ls Q H locs hQ hB hP hS
  obtain ⟨hx, hb, hr, hlk, hin, hml, hown, hts, hA, hK, hD, hE, hl⟩ := hB
  have hF : xf_F g p m c cd_SR_make 6 s args "StackedRows" A := ⟨⟨hx, hb, hml, hown, hts⟩, hE, hK, hA⟩
  have hl : lv_has ls 6 [(0, .ref h), (1, .int (nI L)), (2, .int (nI cc))] := hl
  have hown : s.vm.findClass "StackedRows" = some m.cls := hown
  refine lv_iload_n hx hb dd_SR_make_0 rfl (lv_at hl 1 rfl) ?_
  refine xb_zlt (tgt := 21) hx hb (by omega) dd_SR_make_1 rfl ?_
  refine lv_iload_n hx hb dd_SR_make_4 rfl (lv_at hl 1 rfl) ?_
  refine lv_bipush (v := nI 8) hx hb dd_SR_make_5 (by decide) ?_
  refine xb_gt (tgt := 21) hx hb (by omega) (by omega) dd_SR_make_7 rfl (fun h_1 => False.elim (by omega)) (fun h_1 => ?_)
  refine lv_iload_n hx hb dd_SR_make_10 rfl (lv_at hl 2 rfl) ?_
  refine lv_iconst (v := nI 1) hx hb dd_SR_make_11 (by decide) ?_
  refine xb_lt (tgt := 21) hx hb (by omega) (by omega) dd_SR_make_12 rfl (fun h_2 => False.elim (by omega)) (fun h_2 => ?_)
  refine lv_iload_n hx hb dd_SR_make_15 rfl (lv_at hl 2 rfl) ?_
  refine lv_bipush (v := nI 30) hx hb dd_SR_make_16 (by decide) ?_
  refine xb_le (tgt := 29) hx hb (by omega) (by omega) dd_SR_make_18 rfl (fun h_3 => ?_) (fun h_3 => False.elim (by omega))
  refine lv_aload_n hx hb dd_SR_make_29 rfl (lv_at hl 0 rfl) ?_
  refine gf_SR_21 hx hb hts hown hK hP 0 rfl rfl dd_SR_make_30 ?_
  refine xc_Vv (wr := [oc_o h 0 [.ref tp, .ref wt, .ref ck, .ref sy, .ref sv, .ref rw, .ref lt], oc_o ck 2 [.ref fc], oc_i g fc 513 (fun _ => 0), oc_o sy 7 [.ref p9, .int (nI 0), .int (nI 0)], oc_i g p9 1108 (fun _ => 0), oc_i g rw 928 (fun _ => 0)]) (k1 := 0) (k2 := 0) (As := []) (rest := []) (k := 0) hF hP hD hS (ct_wr_write l g wt tp o x n d e9 tb b v (fun _ => 0) (fun _ => 0)) (xt_V ml_SR_82 wi_WR_write wx_WR_write wn_WR wc_WR_write) (by decide) 2 rfl rfl rfl [2, 1, 3, 4, 5, 6] [0, 7, 8, 9, 10, 11] ⟨rfl, rfl, by decide, by decide, by decide⟩ ⟨⟨Nat.le_of_ble_eq_true rfl, Nat.le_of_ble_eq_true rfl⟩, rfl, rfl, Nat.le_of_ble_eq_true rfl, Nat.le_of_ble_eq_true rfl⟩ rfl hl.1 rfl (Nat.le_of_ble_eq_true rfl) dd_SR_make_33 (fun u H locs hp hP hD hS => ?_)
  obtain ⟨v_4, f_5, f_6⟩ := u
  have hP : va_P g.1 vwCl [oc_o h 0 [.ref tp, .ref wt, .ref ck, .ref sy, .ref sv, .ref rw, .ref lt], oc_o ck 2 [.ref fc], oc_i g fc 513 (fun _ => 0), oc_o sy 7 [.ref p9, .int (nI 0), .int (nI 0)], oc_i g p9 1108 (fun _ => 0), oc_i g rw 928 (fun _ => 0), oc_o wt 10 [.ref tp, .ref o, .ref x, .ref n, .ref d, .ref e9, .int (nI 900), .int (nI 1)], oc_o tp 8 [.ref tb, .int (nI 0)], oc_o o 3 [.ref b, .int (nI 0)], oc_o x 9 [.ref o, v_4, .int (-1)], oc_i g d 1201 f_5, oc_i g e9 1201 f_6] H := hP
  have hD : va_D A [oc_o h 0 [.ref tp, .ref wt, .ref ck, .ref sy, .ref sv, .ref rw, .ref lt], oc_o ck 2 [.ref fc], oc_i g fc 513 (fun _ => 0), oc_o sy 7 [.ref p9, .int (nI 0), .int (nI 0)], oc_i g p9 1108 (fun _ => 0), oc_i g rw 928 (fun _ => 0), oc_o wt 10 [.ref tp, .ref o, .ref x, .ref n, .ref d, .ref e9, .int (nI 900), .int (nI 1)], oc_o tp 8 [.ref tb, .int (nI 0)], oc_o o 3 [.ref b, .int (nI 0)], oc_o x 9 [.ref o, v_4, .int (-1)], oc_i g d 1201 f_5, oc_i g e9 1201 f_6] := hD
  refine lv_iload_n hx hb dd_SR_make_36 rfl (lv_at hl 1 rfl) ?_
  refine xc_Si (wr := [oc_o h 0 [.ref tp, .ref wt, .ref ck, .ref sy, .ref sv, .ref rw, .ref lt], oc_o ck 2 [.ref fc], oc_i g fc 513 (fun _ => 0), oc_o sy 7 [.ref p9, .int (nI 0), .int (nI 0)], oc_i g p9 1108 (fun _ => 0), oc_i g rw 928 (fun _ => 0), oc_o wt 10 [.ref tp, .ref o, .ref x, .ref n, .ref d, .ref e9, .int (nI 900), .int (nI 1)], oc_o tp 8 [.ref tb, .int (nI 0)], oc_o o 3 [.ref b, .int (nI 0)], oc_o x 9 [.ref o, v_4, .int (-1)], oc_i g d 1201 f_5, oc_i g e9 1201 f_6]) (k1 := 0) (k2 := 0) (As := [.int (nI L)]) (rest := []) (k := 1) hF hP hD hS (ct_chk l g L K (qL) (qK)) wc_SR_checksOf wn_SR ml_SR_87 wz_SR_checksOf (by decide) [] [0, 1, 2, 3, 4, 5, 6, 7, 8, 9, 10, 11] ⟨rfl, rfl, by decide, by decide, by decide⟩ ⟨⟨Nat.le_of_ble_eq_true rfl, Nat.le_of_ble_eq_true rfl⟩, rfl, rfl, Nat.le_of_ble_eq_true rfl, Nat.le_of_ble_eq_true rfl⟩ rfl hl.1 rfl (Nat.le_of_ble_eq_true rfl) dd_SR_make_37 (fun r_8 u H locs hp hP hD hS => ?_)
  obtain rfl := hp
  have hP : va_P g.1 vwCl [oc_o h 0 [.ref tp, .ref wt, .ref ck, .ref sy, .ref sv, .ref rw, .ref lt], oc_o ck 2 [.ref fc], oc_i g fc 513 (fun _ => 0), oc_o sy 7 [.ref p9, .int (nI 0), .int (nI 0)], oc_i g p9 1108 (fun _ => 0), oc_i g rw 928 (fun _ => 0), oc_o wt 10 [.ref tp, .ref o, .ref x, .ref n, .ref d, .ref e9, .int (nI 900), .int (nI 1)], oc_o tp 8 [.ref tb, .int (nI 0)], oc_o o 3 [.ref b, .int (nI 0)], oc_o x 9 [.ref o, v_4, .int (-1)], oc_i g d 1201 f_5, oc_i g e9 1201 f_6] H := hP
  have hD : va_D A [oc_o h 0 [.ref tp, .ref wt, .ref ck, .ref sy, .ref sv, .ref rw, .ref lt], oc_o ck 2 [.ref fc], oc_i g fc 513 (fun _ => 0), oc_o sy 7 [.ref p9, .int (nI 0), .int (nI 0)], oc_i g p9 1108 (fun _ => 0), oc_i g rw 928 (fun _ => 0), oc_o wt 10 [.ref tp, .ref o, .ref x, .ref n, .ref d, .ref e9, .int (nI 900), .int (nI 1)], oc_o tp 8 [.ref tb, .int (nI 0)], oc_o o 3 [.ref b, .int (nI 0)], oc_o x 9 [.ref o, v_4, .int (-1)], oc_i g d 1201 f_5, oc_i g e9 1201 f_6] := hD
  refine lv_istore_n (lv' := [(3, .int (nI K)), (0, .ref h), (1, .int (nI L)), (2, .int (nI cc))]) hx hb dd_SR_make_40 rfl hl (by decide) rfl (fun ls hl => ?_)
  refine lv_iconst (v := nI 1) hx hb dd_SR_make_41 (by decide) ?_
  refine lv_aload_n hx hb dd_SR_make_42 rfl (lv_at hl 1 rfl) ?_
  refine gf_SR_21 hx hb hts hown hK hP 0 rfl rfl dd_SR_make_43 ?_
  refine xc_Vi (wr := [oc_o h 0 [.ref tp, .ref wt, .ref ck, .ref sy, .ref sv, .ref rw, .ref lt], oc_o ck 2 [.ref fc], oc_i g fc 513 (fun _ => 0), oc_o sy 7 [.ref p9, .int (nI 0), .int (nI 0)], oc_i g p9 1108 (fun _ => 0), oc_i g rw 928 (fun _ => 0), oc_o tp 8 [.ref tb, .int (nI 0)], oc_o x 9 [.ref o, v_4, .int (-1)], oc_i g d 1201 f_5, oc_i g e9 1201 f_6]) (k1 := 0) (k2 := 0) (As := []) (rest := [.int (nI 1)]) (k := 0) hF hP hD hS (ct_wr_size l g wt tp o x n d e9 b 0 (nI 1)) (xt_V ml_SR_85 wi_WR_size wx_WR_size wn_WR wc_WR_size) (by decide) 6 rfl rfl rfl [6, 8] [0, 1, 2, 3, 4, 5, 7, 9, 10, 11] ⟨rfl, rfl, by decide, by decide, by decide⟩ ⟨⟨Nat.le_of_ble_eq_true rfl, Nat.le_of_ble_eq_true rfl⟩, rfl, rfl, Nat.le_of_ble_eq_true rfl, Nat.le_of_ble_eq_true rfl⟩ rfl hl.1 rfl (Nat.le_of_ble_eq_true rfl) dd_SR_make_46 (fun r_9 u H locs hp hP hD hS => ?_)
  obtain rfl := hp
  have hP : va_P g.1 vwCl [oc_o h 0 [.ref tp, .ref wt, .ref ck, .ref sy, .ref sv, .ref rw, .ref lt], oc_o ck 2 [.ref fc], oc_i g fc 513 (fun _ => 0), oc_o sy 7 [.ref p9, .int (nI 0), .int (nI 0)], oc_i g p9 1108 (fun _ => 0), oc_i g rw 928 (fun _ => 0), oc_o tp 8 [.ref tb, .int (nI 0)], oc_o x 9 [.ref o, v_4, .int (-1)], oc_i g d 1201 f_5, oc_i g e9 1201 f_6, oc_o wt 10 [.ref tp, .ref o, .ref x, .ref n, .ref d, .ref e9, .int (nI 900), .int (nI 1)], oc_o o 3 [.ref b, .int (nI 0)]] H := hP
  have hD : va_D A [oc_o h 0 [.ref tp, .ref wt, .ref ck, .ref sy, .ref sv, .ref rw, .ref lt], oc_o ck 2 [.ref fc], oc_i g fc 513 (fun _ => 0), oc_o sy 7 [.ref p9, .int (nI 0), .int (nI 0)], oc_i g p9 1108 (fun _ => 0), oc_i g rw 928 (fun _ => 0), oc_o tp 8 [.ref tb, .int (nI 0)], oc_o x 9 [.ref o, v_4, .int (-1)], oc_i g d 1201 f_5, oc_i g e9 1201 f_6, oc_o wt 10 [.ref tp, .ref o, .ref x, .ref n, .ref d, .ref e9, .int (nI 900), .int (nI 1)], oc_o o 3 [.ref b, .int (nI 0)]] := hD
  refine xi_iadd hx hb dd_SR_make_49 ?_
  refine lv_iload_n hx hb dd_SR_make_50 rfl (lv_at hl 0 rfl) ?_
  refine xi_iadd hx hb dd_SR_make_51 ?_
  refine lv_iload_n hx hb dd_SR_make_52 rfl (lv_at hl 3 rfl) ?_
  refine xc_Si (wr := [oc_o h 0 [.ref tp, .ref wt, .ref ck, .ref sy, .ref sv, .ref rw, .ref lt], oc_o ck 2 [.ref fc], oc_i g fc 513 (fun _ => 0), oc_o sy 7 [.ref p9, .int (nI 0), .int (nI 0)], oc_i g p9 1108 (fun _ => 0), oc_i g rw 928 (fun _ => 0), oc_o tp 8 [.ref tb, .int (nI 0)], oc_o x 9 [.ref o, v_4, .int (-1)], oc_i g d 1201 f_5, oc_i g e9 1201 f_6, oc_o wt 10 [.ref tp, .ref o, .ref x, .ref n, .ref d, .ref e9, .int (nI 900), .int (nI 1)], oc_o o 3 [.ref b, .int (nI 0)]]) (k1 := 0) (k2 := 0) (As := [.int (nI (1 + K)), .int (nI cc)]) (rest := []) (k := 2) hF hP hD hS (ct_rows l g (1 + K) cc rr (by omega) (by omega) (by omega) (xr_low qr qr2.2)) wc_SR_rowsFor wn_SR ml_SR_90 wz_SR_rowsFor (by decide) [] [0, 1, 2, 3, 4, 5, 6, 7, 8, 9, 10, 11] ⟨rfl, rfl, by decide, by decide, by decide⟩ ⟨⟨Nat.le_of_ble_eq_true rfl, Nat.le_of_ble_eq_true rfl⟩, rfl, rfl, Nat.le_of_ble_eq_true rfl, Nat.le_of_ble_eq_true rfl⟩ rfl hl.1 rfl (Nat.le_of_ble_eq_true rfl) dd_SR_make_53 (fun r_10 u H locs hp hP hD hS => ?_)
  obtain rfl := hp
  have hP : va_P g.1 vwCl [oc_o h 0 [.ref tp, .ref wt, .ref ck, .ref sy, .ref sv, .ref rw, .ref lt], oc_o ck 2 [.ref fc], oc_i g fc 513 (fun _ => 0), oc_o sy 7 [.ref p9, .int (nI 0), .int (nI 0)], oc_i g p9 1108 (fun _ => 0), oc_i g rw 928 (fun _ => 0), oc_o tp 8 [.ref tb, .int (nI 0)], oc_o x 9 [.ref o, v_4, .int (-1)], oc_i g d 1201 f_5, oc_i g e9 1201 f_6, oc_o wt 10 [.ref tp, .ref o, .ref x, .ref n, .ref d, .ref e9, .int (nI 900), .int (nI 1)], oc_o o 3 [.ref b, .int (nI 0)]] H := hP
  have hD : va_D A [oc_o h 0 [.ref tp, .ref wt, .ref ck, .ref sy, .ref sv, .ref rw, .ref lt], oc_o ck 2 [.ref fc], oc_i g fc 513 (fun _ => 0), oc_o sy 7 [.ref p9, .int (nI 0), .int (nI 0)], oc_i g p9 1108 (fun _ => 0), oc_i g rw 928 (fun _ => 0), oc_o tp 8 [.ref tb, .int (nI 0)], oc_o x 9 [.ref o, v_4, .int (-1)], oc_i g d 1201 f_5, oc_i g e9 1201 f_6, oc_o wt 10 [.ref tp, .ref o, .ref x, .ref n, .ref d, .ref e9, .int (nI 900), .int (nI 1)], oc_o o 3 [.ref b, .int (nI 0)]] := hD
  refine lv_istore (lv' := [(4, .int (nI rr)), (3, .int (nI K)), (0, .ref h), (1, .int (nI L)), (2, .int (nI cc))]) hx hb dd_SR_make_56 hl (by decide) rfl (fun ls hl => ?_)
  refine lv_iload hx hb dd_SR_make_58 (lv_at hl 0 rfl) ?_
  refine lv_iload_n hx hb dd_SR_make_60 rfl (lv_at hl 4 rfl) ?_
  refine xi_imul hx hb dd_SR_make_61 ?_
  refine lv_istore (lv' := [(5, .int (nI (rr * cc))), (4, .int (nI rr)), (3, .int (nI K)), (0, .ref h), (1, .int (nI L)), (2, .int (nI cc))]) hx hb dd_SR_make_62 hl (by decide) rfl (fun ls hl => ?_)
  refine lv_iload hx hb dd_SR_make_64 (lv_at hl 1 rfl) ?_
  refine lv_bipush (v := nI 90) hx hb dd_SR_make_66 (by decide) ?_
  refine xb_gt (tgt := 79) hx hb (by omega) (by omega) dd_SR_make_68 rfl (fun h_11 => False.elim (by omega)) (fun h_11 => ?_)
  refine lv_iload hx hb dd_SR_make_71 (lv_at hl 0 rfl) ?_
  refine lv_sipush (v := nI 928) hx hb dd_SR_make_73 (by decide) ?_
  refine xb_le (tgt := 87) hx hb (by omega) (by omega) dd_SR_make_76 rfl (fun h_12 => ?_) (fun h_12 => False.elim (by omega))
  refine lv_aload_n hx hb dd_SR_make_87 rfl (lv_at hl 3 rfl) ?_
  refine lv_iload hx hb dd_SR_make_88 (lv_at hl 0 rfl) ?_
  refine lv_iload_n hx hb dd_SR_make_90 rfl (lv_at hl 2 rfl) ?_
  refine xi_isub hx hb (by omega) dd_SR_make_91 ?_
  refine xc_Vv (wr := [oc_o ck 2 [.ref fc], oc_i g fc 513 (fun _ => 0), oc_o sy 7 [.ref p9, .int (nI 0), .int (nI 0)], oc_i g p9 1108 (fun _ => 0), oc_o tp 8 [.ref tb, .int (nI 0)], oc_o x 9 [.ref o, v_4, .int (-1)], oc_i g d 1201 f_5, oc_i g e9 1201 f_6]) (k1 := 0) (k2 := 0) (As := [.int (nI ((rr * cc) - K))]) (rest := []) (k := 1) hF hP hD hS (ct_fillRow l g h tp wt ck sy sv rw lt o x n d e9 b ((rr * cc) - K) (fun _ => 0) (by omega) (by omega)) (xt_V ml_SR_94 wi_SR_fillRow wx_SR_fillRow wn_SR wc_SR_fillRow) (by decide) 0 rfl rfl rfl [0, 10, 11, 5] [1, 2, 3, 4, 6, 7, 8, 9] ⟨rfl, rfl, by decide, by decide, by decide⟩ ⟨⟨Nat.le_of_ble_eq_true rfl, Nat.le_of_ble_eq_true rfl⟩, rfl, rfl, Nat.le_of_ble_eq_true rfl, Nat.le_of_ble_eq_true rfl⟩ rfl hl.1 rfl (Nat.le_of_ble_eq_true rfl) dd_SR_make_92 (fun f_13 H locs hp hP hD hS => ?_)
  have hP : va_P g.1 vwCl [oc_o ck 2 [.ref fc], oc_i g fc 513 (fun _ => 0), oc_o sy 7 [.ref p9, .int (nI 0), .int (nI 0)], oc_i g p9 1108 (fun _ => 0), oc_o tp 8 [.ref tb, .int (nI 0)], oc_o x 9 [.ref o, v_4, .int (-1)], oc_i g d 1201 f_5, oc_i g e9 1201 f_6, oc_o h 0 [.ref tp, .ref wt, .ref ck, .ref sy, .ref sv, .ref rw, .ref lt], oc_o wt 10 [.ref tp, .ref o, .ref x, .ref n, .ref d, .ref e9, .int (nI 900), .int (nI 1)], oc_o o 3 [.ref b, .int (nI 0)], oc_i g rw 928 f_13] H := hP
  have hD : va_D A [oc_o ck 2 [.ref fc], oc_i g fc 513 (fun _ => 0), oc_o sy 7 [.ref p9, .int (nI 0), .int (nI 0)], oc_i g p9 1108 (fun _ => 0), oc_o tp 8 [.ref tb, .int (nI 0)], oc_o x 9 [.ref o, v_4, .int (-1)], oc_i g d 1201 f_5, oc_i g e9 1201 f_6, oc_o h 0 [.ref tp, .ref wt, .ref ck, .ref sy, .ref sv, .ref rw, .ref lt], oc_o wt 10 [.ref tp, .ref o, .ref x, .ref n, .ref d, .ref e9, .int (nI 900), .int (nI 1)], oc_o o 3 [.ref b, .int (nI 0)], oc_i g rw 928 f_13] := hD
  refine lv_aload_n hx hb dd_SR_make_95 rfl (lv_at hl 3 rfl) ?_
  refine gf_SR_28 hx hb hts hown hK hP 8 rfl rfl dd_SR_make_96 ?_
  refine lv_aload_n hx hb dd_SR_make_99 rfl (lv_at hl 3 rfl) ?_
  refine gf_SR_39 hx hb hts hown hK hP 8 rfl rfl dd_SR_make_100 ?_
  refine lv_iload hx hb dd_SR_make_103 (lv_at hl 0 rfl) ?_
  refine lv_iload_n hx hb dd_SR_make_105 rfl (lv_at hl 2 rfl) ?_
  refine xc_Vv (wr := [oc_o sy 7 [.ref p9, .int (nI 0), .int (nI 0)], oc_i g p9 1108 (fun _ => 0), oc_o tp 8 [.ref tb, .int (nI 0)], oc_o x 9 [.ref o, v_4, .int (-1)], oc_i g d 1201 f_5, oc_i g e9 1201 f_6, oc_o h 0 [.ref tp, .ref wt, .ref ck, .ref sy, .ref sv, .ref rw, .ref lt], oc_o wt 10 [.ref tp, .ref o, .ref x, .ref n, .ref d, .ref e9, .int (nI 900), .int (nI 1)], oc_o o 3 [.ref b, .int (nI 0)]]) (k1 := 0) (k2 := 0) (As := [.ref rw, .int (nI (rr * cc)), .int (nI K)]) (rest := []) (k := 3) hF hP hD hS (ct_ck_write l g ck fc rw (rr * cc) K f_13 (fun _ => 0) (by omega) (by omega) (by omega)) (xt_V ml_SR_97 wi_CK_write wx_CK_write wn_CK wc_CK_write) (by decide) 0 rfl rfl rfl [0, 1, 11] [2, 3, 4, 5, 6, 7, 8, 9, 10] ⟨rfl, rfl, by decide, by decide, by decide⟩ ⟨⟨Nat.le_of_ble_eq_true rfl, Nat.le_of_ble_eq_true rfl⟩, rfl, rfl, Nat.le_of_ble_eq_true rfl, Nat.le_of_ble_eq_true rfl⟩ rfl hl.1 rfl (Nat.le_of_ble_eq_true rfl) dd_SR_make_106 (fun u H locs hp hP hD hS => ?_)
  obtain ⟨f_15, f_16⟩ := u
  have hP : va_P g.1 vwCl [oc_o sy 7 [.ref p9, .int (nI 0), .int (nI 0)], oc_i g p9 1108 (fun _ => 0), oc_o tp 8 [.ref tb, .int (nI 0)], oc_o x 9 [.ref o, v_4, .int (-1)], oc_i g d 1201 f_5, oc_i g e9 1201 f_6, oc_o h 0 [.ref tp, .ref wt, .ref ck, .ref sy, .ref sv, .ref rw, .ref lt], oc_o wt 10 [.ref tp, .ref o, .ref x, .ref n, .ref d, .ref e9, .int (nI 900), .int (nI 1)], oc_o o 3 [.ref b, .int (nI 0)], oc_o ck 2 [.ref fc], oc_i g fc 513 f_16, oc_i g rw 928 f_15] H := hP
  have hD : va_D A [oc_o sy 7 [.ref p9, .int (nI 0), .int (nI 0)], oc_i g p9 1108 (fun _ => 0), oc_o tp 8 [.ref tb, .int (nI 0)], oc_o x 9 [.ref o, v_4, .int (-1)], oc_i g d 1201 f_5, oc_i g e9 1201 f_6, oc_o h 0 [.ref tp, .ref wt, .ref ck, .ref sy, .ref sv, .ref rw, .ref lt], oc_o wt 10 [.ref tp, .ref o, .ref x, .ref n, .ref d, .ref e9, .int (nI 900), .int (nI 1)], oc_o o 3 [.ref b, .int (nI 0)], oc_o ck 2 [.ref fc], oc_i g fc 513 f_16, oc_i g rw 928 f_15] := hD
  refine lv_aload_n hx hb dd_SR_make_109 rfl (lv_at hl 3 rfl) ?_
  refine gf_SR_35 hx hb hts hown hK hP 6 rfl rfl dd_SR_make_110 ?_
  refine lv_iload hx hb dd_SR_make_113 (lv_at hl 1 rfl) ?_
  refine lv_iload_n hx hb dd_SR_make_115 rfl (lv_at hl 5 rfl) ?_
  refine xc_Vv (wr := [oc_o tp 8 [.ref tb, .int (nI 0)], oc_o x 9 [.ref o, v_4, .int (-1)], oc_i g d 1201 f_5, oc_i g e9 1201 f_6, oc_o h 0 [.ref tp, .ref wt, .ref ck, .ref sy, .ref sv, .ref rw, .ref lt], oc_o wt 10 [.ref tp, .ref o, .ref x, .ref n, .ref d, .ref e9, .int (nI 900), .int (nI 1)], oc_o o 3 [.ref b, .int (nI 0)], oc_o ck 2 [.ref fc], oc_i g fc 513 f_16, oc_i g rw 928 f_15]) (k1 := 0) (k2 := 0) (As := [.int (nI rr), .int (nI cc)]) (rest := []) (k := 2) hF hP hD hS (ct_sy_begin l g sy p9 0 0 rr cc (fun _ => 0)) (xt_V ml_SR_100 wi_SY_begin wx_SY_begin wn_SY wc_SY_begin) (by decide) 0 rfl rfl rfl [0, 1] [2, 3, 4, 5, 6, 7, 8, 9, 10, 11] ⟨rfl, rfl, by decide, by decide, by decide⟩ ⟨⟨Nat.le_of_ble_eq_true rfl, Nat.le_of_ble_eq_true rfl⟩, rfl, rfl, Nat.le_of_ble_eq_true rfl, Nat.le_of_ble_eq_true rfl⟩ rfl hl.1 rfl (Nat.le_of_ble_eq_true rfl) dd_SR_make_116 (fun f_18 H locs hp hP hD hS => ?_)
  have hP : va_P g.1 vwCl [oc_o tp 8 [.ref tb, .int (nI 0)], oc_o x 9 [.ref o, v_4, .int (-1)], oc_i g d 1201 f_5, oc_i g e9 1201 f_6, oc_o h 0 [.ref tp, .ref wt, .ref ck, .ref sy, .ref sv, .ref rw, .ref lt], oc_o wt 10 [.ref tp, .ref o, .ref x, .ref n, .ref d, .ref e9, .int (nI 900), .int (nI 1)], oc_o o 3 [.ref b, .int (nI 0)], oc_o ck 2 [.ref fc], oc_i g fc 513 f_16, oc_i g rw 928 f_15, oc_o sy 7 [.ref p9, .int (nI rr), .int (nI cc)], oc_i g p9 1108 f_18] H := hP
  have hD : va_D A [oc_o tp 8 [.ref tb, .int (nI 0)], oc_o x 9 [.ref o, v_4, .int (-1)], oc_i g d 1201 f_5, oc_i g e9 1201 f_6, oc_o h 0 [.ref tp, .ref wt, .ref ck, .ref sy, .ref sv, .ref rw, .ref lt], oc_o wt 10 [.ref tp, .ref o, .ref x, .ref n, .ref d, .ref e9, .int (nI 900), .int (nI 1)], oc_o o 3 [.ref b, .int (nI 0)], oc_o ck 2 [.ref fc], oc_i g fc 513 f_16, oc_i g rw 928 f_15, oc_o sy 7 [.ref p9, .int (nI rr), .int (nI cc)], oc_i g p9 1108 f_18] := hD
  refine lv_aload_n hx hb dd_SR_make_119 rfl (lv_at hl 3 rfl) ?_
  refine gf_SR_35 hx hb hts hown hK hP 4 rfl rfl dd_SR_make_120 ?_
  refine lv_aload_n hx hb dd_SR_make_123 rfl (lv_at hl 3 rfl) ?_
  refine gf_SR_39 hx hb hts hown hK hP 4 rfl rfl dd_SR_make_124 ?_
  refine lv_iload_n hx hb dd_SR_make_127 rfl (lv_at hl 4 rfl) ?_
  refine xc_Vv (wr := [oc_o tp 8 [.ref tb, .int (nI 0)], oc_o x 9 [.ref o, v_4, .int (-1)], oc_i g d 1201 f_5, oc_i g e9 1201 f_6, oc_o h 0 [.ref tp, .ref wt, .ref ck, .ref sy, .ref sv, .ref rw, .ref lt], oc_o wt 10 [.ref tp, .ref o, .ref x, .ref n, .ref d, .ref e9, .int (nI 900), .int (nI 1)], oc_o o 3 [.ref b, .int (nI 0)], oc_o ck 2 [.ref fc], oc_i g fc 513 f_16]) (k1 := 0) (k2 := 0) (As := [.ref rw, .int (nI L)]) (rest := []) (k := 2) hF hP hD hS (ct_sy_fill l g sy p9 rw rr cc L f_18 f_15 (by omega) (by omega) (by omega) (by omega) (by omega) (by omega)) (xt_V ml_SR_104 wi_SY_fill wx_SY_fill wn_SY wc_SY_fill) (by decide) 10 rfl rfl rfl [10, 11, 9] [0, 1, 2, 3, 4, 5, 6, 7, 8] ⟨rfl, rfl, by decide, by decide, by decide⟩ ⟨⟨Nat.le_of_ble_eq_true rfl, Nat.le_of_ble_eq_true rfl⟩, rfl, rfl, Nat.le_of_ble_eq_true rfl, Nat.le_of_ble_eq_true rfl⟩ rfl hl.1 rfl (Nat.le_of_ble_eq_true rfl) dd_SR_make_128 (fun f_20 H locs hp hP hD hS => ?_)
  have hP : va_P g.1 vwCl [oc_o tp 8 [.ref tb, .int (nI 0)], oc_o x 9 [.ref o, v_4, .int (-1)], oc_i g d 1201 f_5, oc_i g e9 1201 f_6, oc_o h 0 [.ref tp, .ref wt, .ref ck, .ref sy, .ref sv, .ref rw, .ref lt], oc_o wt 10 [.ref tp, .ref o, .ref x, .ref n, .ref d, .ref e9, .int (nI 900), .int (nI 1)], oc_o o 3 [.ref b, .int (nI 0)], oc_o ck 2 [.ref fc], oc_i g fc 513 f_16, oc_o sy 7 [.ref p9, .int (nI rr), .int (nI cc)], oc_i g p9 1108 f_20, oc_i g rw 928 f_15] H := hP
  have hD : va_D A [oc_o tp 8 [.ref tb, .int (nI 0)], oc_o x 9 [.ref o, v_4, .int (-1)], oc_i g d 1201 f_5, oc_i g e9 1201 f_6, oc_o h 0 [.ref tp, .ref wt, .ref ck, .ref sy, .ref sv, .ref rw, .ref lt], oc_o wt 10 [.ref tp, .ref o, .ref x, .ref n, .ref d, .ref e9, .int (nI 900), .int (nI 1)], oc_o o 3 [.ref b, .int (nI 0)], oc_o ck 2 [.ref fc], oc_i g fc 513 f_16, oc_o sy 7 [.ref p9, .int (nI rr), .int (nI cc)], oc_i g p9 1108 f_20, oc_i g rw 928 f_15] := hD
  refine lv_iload hx hb dd_SR_make_131 (lv_at hl 1 rfl) ?_
  exact xr_i hx hb hr hlk hQ hP hD hS () (by first | rfl | exact congrArg nI (by omega)) [] (by decide) rfl rfl (Nat.le_of_ble_eq_true rfl) (Nat.le_of_ble_eq_true rfl) dd_SR_make_133

set_option maxHeartbeats 4000000 in
set_option maxRecDepth 100000 in
theorem cf_blank (l : Launch) (g : xg_G) (h : Nat) (tp : Nat) (wt : Nat) (ck : Nat) (sy : Nat) (sv : Nat) (rw : Nat) (lt : Nat) (p9 : Nat) (rr : Nat) (cc : Nat) (qr : 3 ≤ rr) (qr2 : rr ≤ 90) (qc : 1 ≤ cc) (qc2 : cc ≤ 30) (qn : rr * cc ≤ 928) : kc_V l yy_SR_blank cd_SR_blank 3 { frames := 2, cells := 0, slots := 0, locals := 45 } g [.ref h, .int (nI rr), .int (nI cc)] [oc_o h 0 [.ref tp, .ref wt, .ref ck, .ref sy, .ref sv, .ref rw, .ref lt], oc_o sy 7 [.ref p9, .int (nI 0), .int (nI 0)], oc_i g p9 1108 (fun _ => 0)] (S := Unit) (fun _ => True) (fun _ => []) := by
  refine kc_Vof (by decide) (Nat.le_of_ble_eq_true rfl) ?_
  intro p e s m args below meth c A ls Q H locs hQ hB hP hS
  obtain ⟨hx, hb, hr, hlk, hin, hml, hown, hts, hA, hK, hD, hE, hl⟩ := hB
  have hF : xf_F g p m c cd_SR_blank 3 s args "StackedRows" A := ⟨⟨hx, hb, hml, hown, hts⟩, hE, hK, hA⟩
  have hl : lv_has ls 3 [(0, .ref h), (1, .int (nI rr)), (2, .int (nI cc))] := hl
  have hown : s.vm.findClass "StackedRows" = some m.cls := hown
  refine lv_iload_n hx hb dd_SR_blank_0 rfl (lv_at hl 1 rfl) ?_
  refine lv_iconst (v := nI 3) hx hb dd_SR_blank_1 (by decide) ?_
  refine xb_lt (tgt := 22) hx hb (by omega) (by omega) dd_SR_blank_2 rfl (fun h_1 => False.elim (by omega)) (fun h_1 => ?_)
  refine lv_iload_n hx hb dd_SR_blank_5 rfl (lv_at hl 1 rfl) ?_
  refine lv_bipush (v := nI 90) hx hb dd_SR_blank_6 (by decide) ?_
  refine xb_gt (tgt := 22) hx hb (by omega) (by omega) dd_SR_blank_8 rfl (fun h_2 => False.elim (by omega)) (fun h_2 => ?_)
  refine lv_iload_n hx hb dd_SR_blank_11 rfl (lv_at hl 2 rfl) ?_
  refine lv_iconst (v := nI 1) hx hb dd_SR_blank_12 (by decide) ?_
  refine xb_lt (tgt := 22) hx hb (by omega) (by omega) dd_SR_blank_13 rfl (fun h_3 => False.elim (by omega)) (fun h_3 => ?_)
  refine lv_iload_n hx hb dd_SR_blank_16 rfl (lv_at hl 2 rfl) ?_
  refine lv_bipush (v := nI 30) hx hb dd_SR_blank_17 (by decide) ?_
  refine xb_le (tgt := 30) hx hb (by omega) (by omega) dd_SR_blank_19 rfl (fun h_4 => ?_) (fun h_4 => False.elim (by omega))
  refine lv_iload_n hx hb dd_SR_blank_30 rfl (lv_at hl 1 rfl) ?_
  refine lv_iload_n hx hb dd_SR_blank_31 rfl (lv_at hl 2 rfl) ?_
  refine xi_imul hx hb dd_SR_blank_32 ?_
  refine lv_sipush (v := nI 928) hx hb dd_SR_blank_33 (by decide) ?_
  refine xb_le (tgt := 47) hx hb (by omega) (by omega) dd_SR_blank_36 rfl (fun h_5 => ?_) (fun h_5 => False.elim (by omega))
  refine lv_aload_n hx hb dd_SR_blank_47 rfl (lv_at hl 0 rfl) ?_
  refine gf_SR_35 hx hb hts hown hK hP 0 rfl rfl dd_SR_blank_48 ?_
  refine lv_iload_n hx hb dd_SR_blank_51 rfl (lv_at hl 1 rfl) ?_
  refine lv_iload_n hx hb dd_SR_blank_52 rfl (lv_at hl 2 rfl) ?_
  refine xc_Vv (wr := [oc_o h 0 [.ref tp, .ref wt, .ref ck, .ref sy, .ref sv, .ref rw, .ref lt]]) (k1 := 0) (k2 := 0) (As := [.int (nI rr), .int (nI cc)]) (rest := []) (k := 2) hF hP hD hS (ct_sy_begin l g sy p9 0 0 rr cc (fun _ => 0)) (xt_V ml_SR_100 wi_SY_begin wx_SY_begin wn_SY wc_SY_begin) (by decide) 1 rfl rfl rfl [1, 2] [0] ⟨rfl, rfl, by decide, by decide, by decide⟩ ⟨⟨Nat.le_of_ble_eq_true rfl, Nat.le_of_ble_eq_true rfl⟩, rfl, rfl, Nat.le_of_ble_eq_true rfl, Nat.le_of_ble_eq_true rfl⟩ rfl hl.1 rfl (Nat.le_of_ble_eq_true rfl) dd_SR_blank_53 (fun f_6 H locs hp hP hD hS => ?_)
  have hP : va_P g.1 vwCl [oc_o h 0 [.ref tp, .ref wt, .ref ck, .ref sy, .ref sv, .ref rw, .ref lt], oc_o sy 7 [.ref p9, .int (nI rr), .int (nI cc)], oc_i g p9 1108 f_6] H := hP
  have hD : va_D A [oc_o h 0 [.ref tp, .ref wt, .ref ck, .ref sy, .ref sv, .ref rw, .ref lt], oc_o sy 7 [.ref p9, .int (nI rr), .int (nI cc)], oc_i g p9 1108 f_6] := hD
  exact xr_v hx hb hr hlk hQ hP hD hS () trivial [] (by decide) rfl (Nat.le_of_ble_eq_true rfl) (Nat.le_of_ble_eq_true rfl) dd_SR_blank_56

set_option maxHeartbeats 4000000 in
set_option maxRecDepth 100000 in
theorem cf_blankA (l : Launch) (htr : l.stackTraces = false) (g : xg_G) (h : Nat) (tp : Nat) (wt : Nat) (ck : Nat) (sy : Nat) (sv : Nat) (rw : Nat) (lt : Nat) (x1 : Int32) (x2 : Int32) (qx : x1.toInt < 3 ∨ 90 < x1.toInt ∨ x2.toInt < 1 ∨ 30 < x2.toInt) : kc_T l yy_SR_blank cd_SR_blank 3 none { frames := 6, cells := 1, slots := 6, locals := 89 } g [.ref h, .int x1, .int x2] [oc_o h 0 [.ref tp, .ref wt, .ref ck, .ref sy, .ref sv, .ref rw, .ref lt]] "java/lang/IllegalArgumentException" := by
  refine kc_Tof (by decide) (Nat.le_of_ble_eq_true rfl) ?_
  intro p e s m args below meth c A ls Q H locs hQ hB hP hS hst
  obtain ⟨hx, hb, hr, hlk, hin, hml, hown, hts, hA, hK, hD, hE, hl⟩ := hB
  have hF : xf_F g p m c cd_SR_blank 3 s args "StackedRows" A := ⟨⟨hx, hb, hml, hown, hts⟩, hE, hK, hA⟩
  have hl : lv_has ls 3 [(0, .ref h), (1, .int x1), (2, .int x2)] := hl
  have hown : s.vm.findClass "StackedRows" = some m.cls := hown
  refine lv_iload_n hx hb dd_SR_blank_0 rfl (lv_at hl 1 rfl) ?_
  refine lv_iconst (v := nI 3) hx hb dd_SR_blank_1 (by decide) ?_
  refine xb_rlt (tgt := 22) hx hb (by omega) dd_SR_blank_2 rfl (fun h_1 => ?_) (fun h_1 => ?_)
  · exact xt_throw (names := ["java/lang/RuntimeException", "java/lang/Exception"]) tw_SR_69 (by decide +kernel) (by decide +kernel) cl_SR_69 wk_XA wn_XA htr hx hb hlk hts hown hE hst hS hml hl.1 hQ dd_SR_blank_22 dd_SR_blank_25 dd_SR_blank_26 dd_SR_blank_29 (Nat.le_of_ble_eq_true rfl) (Nat.le_of_ble_eq_true rfl) (Nat.le_of_ble_eq_true rfl) (Nat.le_of_ble_eq_true rfl) (Nat.le_of_ble_eq_true rfl) (Nat.le_of_ble_eq_true rfl)
  · refine lv_iload_n hx hb dd_SR_blank_5 rfl (lv_at hl 1 rfl) ?_
    refine lv_bipush (v := nI 90) hx hb dd_SR_blank_6 (by decide) ?_
    refine xb_rgt (tgt := 22) hx hb (by omega) dd_SR_blank_8 rfl (fun h_2 => ?_) (fun h_2 => ?_)
    · exact xt_throw (names := ["java/lang/RuntimeException", "java/lang/Exception"]) tw_SR_69 (by decide +kernel) (by decide +kernel) cl_SR_69 wk_XA wn_XA htr hx hb hlk hts hown hE hst hS hml hl.1 hQ dd_SR_blank_22 dd_SR_blank_25 dd_SR_blank_26 dd_SR_blank_29 (Nat.le_of_ble_eq_true rfl) (Nat.le_of_ble_eq_true rfl) (Nat.le_of_ble_eq_true rfl) (Nat.le_of_ble_eq_true rfl) (Nat.le_of_ble_eq_true rfl) (Nat.le_of_ble_eq_true rfl)
    · refine lv_iload_n hx hb dd_SR_blank_11 rfl (lv_at hl 2 rfl) ?_
      refine lv_iconst (v := nI 1) hx hb dd_SR_blank_12 (by decide) ?_
      refine xb_rlt (tgt := 22) hx hb (by omega) dd_SR_blank_13 rfl (fun h_3 => ?_) (fun h_3 => ?_)
      · exact xt_throw (names := ["java/lang/RuntimeException", "java/lang/Exception"]) tw_SR_69 (by decide +kernel) (by decide +kernel) cl_SR_69 wk_XA wn_XA htr hx hb hlk hts hown hE hst hS hml hl.1 hQ dd_SR_blank_22 dd_SR_blank_25 dd_SR_blank_26 dd_SR_blank_29 (Nat.le_of_ble_eq_true rfl) (Nat.le_of_ble_eq_true rfl) (Nat.le_of_ble_eq_true rfl) (Nat.le_of_ble_eq_true rfl) (Nat.le_of_ble_eq_true rfl) (Nat.le_of_ble_eq_true rfl)
      · refine lv_iload_n hx hb dd_SR_blank_16 rfl (lv_at hl 2 rfl) ?_
        refine lv_bipush (v := nI 30) hx hb dd_SR_blank_17 (by decide) ?_
        refine xb_rle (tgt := 30) hx hb (by omega) dd_SR_blank_19 rfl (fun h_4 => False.elim (by omega)) (fun h_4 => ?_)
        exact xt_throw (names := ["java/lang/RuntimeException", "java/lang/Exception"]) tw_SR_69 (by decide +kernel) (by decide +kernel) cl_SR_69 wk_XA wn_XA htr hx hb hlk hts hown hE hst hS hml hl.1 hQ dd_SR_blank_22 dd_SR_blank_25 dd_SR_blank_26 dd_SR_blank_29 (Nat.le_of_ble_eq_true rfl) (Nat.le_of_ble_eq_true rfl) (Nat.le_of_ble_eq_true rfl) (Nat.le_of_ble_eq_true rfl) (Nat.le_of_ble_eq_true rfl) (Nat.le_of_ble_eq_true rfl)

set_option maxHeartbeats 4000000 in
set_option maxRecDepth 100000 in
theorem cf_blankB (l : Launch) (htr : l.stackTraces = false) (g : xg_G) (h : Nat) (tp : Nat) (wt : Nat) (ck : Nat) (sy : Nat) (sv : Nat) (rw : Nat) (lt : Nat) (rr : Nat) (cc : Nat) (qr : 3 ≤ rr) (qr2 : rr ≤ 90) (qc : 1 ≤ cc) (qc2 : cc ≤ 30) (qn : 928 < rr * cc) (qn2 : rr * cc ≤ 2700) : kc_T l yy_SR_blank cd_SR_blank 3 none { frames := 6, cells := 1, slots := 6, locals := 89 } g [.ref h, .int (nI rr), .int (nI cc)] [oc_o h 0 [.ref tp, .ref wt, .ref ck, .ref sy, .ref sv, .ref rw, .ref lt]] "java/lang/IllegalArgumentException" := by
  refine kc_Tof (by decide) (Nat.le_of_ble_eq_true rfl) ?_
  intro p e s m args below meth c A ls Q H locs hQ hB hP hS hst
  obtain ⟨hx, hb, hr, hlk, hin, hml, hown, hts, hA, hK, hD, hE, hl⟩ := hB
  have hF : xf_F g p m c cd_SR_blank 3 s args "StackedRows" A := ⟨⟨hx, hb, hml, hown, hts⟩, hE, hK, hA⟩
  have hl : lv_has ls 3 [(0, .ref h), (1, .int (nI rr)), (2, .int (nI cc))] := hl
  have hown : s.vm.findClass "StackedRows" = some m.cls := hown
  refine lv_iload_n hx hb dd_SR_blank_0 rfl (lv_at hl 1 rfl) ?_
  refine lv_iconst (v := nI 3) hx hb dd_SR_blank_1 (by decide) ?_
  refine xb_lt (tgt := 22) hx hb (by omega) (by omega) dd_SR_blank_2 rfl (fun h_1 => False.elim (by omega)) (fun h_1 => ?_)
  refine lv_iload_n hx hb dd_SR_blank_5 rfl (lv_at hl 1 rfl) ?_
  refine lv_bipush (v := nI 90) hx hb dd_SR_blank_6 (by decide) ?_
  refine xb_gt (tgt := 22) hx hb (by omega) (by omega) dd_SR_blank_8 rfl (fun h_2 => False.elim (by omega)) (fun h_2 => ?_)
  refine lv_iload_n hx hb dd_SR_blank_11 rfl (lv_at hl 2 rfl) ?_
  refine lv_iconst (v := nI 1) hx hb dd_SR_blank_12 (by decide) ?_
  refine xb_lt (tgt := 22) hx hb (by omega) (by omega) dd_SR_blank_13 rfl (fun h_3 => False.elim (by omega)) (fun h_3 => ?_)
  refine lv_iload_n hx hb dd_SR_blank_16 rfl (lv_at hl 2 rfl) ?_
  refine lv_bipush (v := nI 30) hx hb dd_SR_blank_17 (by decide) ?_
  refine xb_le (tgt := 30) hx hb (by omega) (by omega) dd_SR_blank_19 rfl (fun h_4 => ?_) (fun h_4 => False.elim (by omega))
  refine lv_iload_n hx hb dd_SR_blank_30 rfl (lv_at hl 1 rfl) ?_
  refine lv_iload_n hx hb dd_SR_blank_31 rfl (lv_at hl 2 rfl) ?_
  refine xi_imul hx hb dd_SR_blank_32 ?_
  refine lv_sipush (v := nI 928) hx hb dd_SR_blank_33 (by decide) ?_
  refine xb_le (tgt := 47) hx hb (by omega) (by omega) dd_SR_blank_36 rfl (fun h_5 => False.elim (by omega)) (fun h_5 => ?_)
  exact xt_throw (names := ["java/lang/RuntimeException", "java/lang/Exception"]) tw_SR_69 (by decide +kernel) (by decide +kernel) cl_SR_69 wk_XA wn_XA htr hx hb hlk hts hown hE hst hS hml hl.1 hQ dd_SR_blank_39 dd_SR_blank_42 dd_SR_blank_43 dd_SR_blank_46 (Nat.le_of_ble_eq_true rfl) (Nat.le_of_ble_eq_true rfl) (Nat.le_of_ble_eq_true rfl) (Nat.le_of_ble_eq_true rfl) (Nat.le_of_ble_eq_true rfl) (Nat.le_of_ble_eq_true rfl)

set_option maxHeartbeats 4000000 in
set_option maxRecDepth 100000 in
theorem cf_place (l : Launch) (htr : l.stackTraces = false) (g : xg_G) (h : Nat) (tp : Nat) (wt : Nat) (ck : Nat) (sy : Nat) (sv : Nat) (rw : Nat) (lt : Nat) (p9 : Nat) (x1 : Int32) (x2 : Int32) : kc_T l yy_SR_place cd_SR_place 3 (some .int) { frames := 6, cells := 1, slots := 6, locals := 89 } g [.ref h, .int x1, .int x2] [oc_o h 0 [.ref tp, .ref wt, .ref ck, .ref sy, .ref sv, .ref rw, .ref lt], oc_o sy 7 [.ref p9, .int (nI 0), .int (nI 0)]] "java/lang/IllegalStateException" := by
  refine kc_Tof (by decide) (Nat.le_of_ble_eq_true rfl) ?_
  intro p e s m args below meth c A ls Q H locs hQ hB hP hS hst
  obtain ⟨hx, hb, hr, hlk, hin, hml, hown, hts, hA, hK, hD, hE, hl⟩ := hB
  have hF : xf_F g p m c cd_SR_place 3 s args "StackedRows" A := ⟨⟨hx, hb, hml, hown, hts⟩, hE, hK, hA⟩
  have hl : lv_has ls 3 [(0, .ref h), (1, .int x1), (2, .int x2)] := hl
  have hown : s.vm.findClass "StackedRows" = some m.cls := hown
  refine lv_aload_n hx hb dd_SR_place_0 rfl (lv_at hl 0 rfl) ?_
  refine gf_SR_35 hx hb hts hown hK hP 0 rfl rfl dd_SR_place_1 ?_
  refine xc_Vi (wr := [oc_o h 0 [.ref tp, .ref wt, .ref ck, .ref sy, .ref sv, .ref rw, .ref lt]]) (k1 := 0) (k2 := 0) (As := []) (rest := []) (k := 0) hF hP hD hS (ct_sy_there l g sy p9) (xt_V ml_SR_108 wi_SY_isThere wx_SY_isThere wn_SY wc_SY_isThere) (by decide) 1 rfl rfl rfl [1] [0] ⟨rfl, rfl, by decide, by decide, by decide⟩ ⟨⟨Nat.le_of_ble_eq_true rfl, Nat.le_of_ble_eq_true rfl⟩, rfl, rfl, Nat.le_of_ble_eq_true rfl, Nat.le_of_ble_eq_true rfl⟩ rfl hl.1 rfl (Nat.le_of_ble_eq_true rfl) dd_SR_place_4 (fun r_1 u H locs hp hP hD hS => ?_)
  obtain rfl := hp
  have hP : va_P g.1 vwCl [oc_o h 0 [.ref tp, .ref wt, .ref ck, .ref sy, .ref sv, .ref rw, .ref lt], oc_o sy 7 [.ref p9, .int (nI 0), .int (nI 0)]] H := hP
  have hD : va_D A [oc_o h 0 [.ref tp, .ref wt, .ref ck, .ref sy, .ref sv, .ref rw, .ref lt], oc_o sy 7 [.ref p9, .int (nI 0), .int (nI 0)]] := hD
  refine lv_if_ne (tgt := 18) hx hb dd_SR_place_7 rfl (fun h_2 => absurd h_2 (by decide)) (fun _ => ?_)
  exact xt_throw (names := ["java/lang/RuntimeException", "java/lang/Exception"]) tw_SR_112 (by decide +kernel) (by decide +kernel) cl_SR_112 wk_XS wn_XS htr hx hb hlk hts hown hE hst hS hml hl.1 hQ dd_SR_place_10 dd_SR_place_13 dd_SR_place_14 dd_SR_place_17 (Nat.le_of_ble_eq_true rfl) (Nat.le_of_ble_eq_true rfl) (Nat.le_of_ble_eq_true rfl) (Nat.le_of_ble_eq_true rfl) (Nat.le_of_ble_eq_true rfl) (Nat.le_of_ble_eq_true rfl)

set_option maxHeartbeats 4000000 in
set_option maxRecDepth 100000 in
theorem cf_put (l : Launch) (htr : l.stackTraces = false) (g : xg_G) (h : Nat) (tp : Nat) (wt : Nat) (ck : Nat) (sy : Nat) (sv : Nat) (rw : Nat) (lt : Nat) (p9 : Nat) (x1 : Int32) (x2 : Int32) (x3 : Int32) : kc_T l yy_SR_put cd_SR_put 4 none { frames := 6, cells := 1, slots := 6, locals := 89 } g [.ref h, .int x1, .int x2, .int x3] [oc_o h 0 [.ref tp, .ref wt, .ref ck, .ref sy, .ref sv, .ref rw, .ref lt], oc_o sy 7 [.ref p9, .int (nI 0), .int (nI 0)]] "java/lang/IllegalStateException" := by
  refine kc_Tof (by decide) (Nat.le_of_ble_eq_true rfl) ?_
  intro p e s m args below meth c A ls Q H locs hQ hB hP hS hst
  obtain ⟨hx, hb, hr, hlk, hin, hml, hown, hts, hA, hK, hD, hE, hl⟩ := hB
  have hF : xf_F g p m c cd_SR_put 4 s args "StackedRows" A := ⟨⟨hx, hb, hml, hown, hts⟩, hE, hK, hA⟩
  have hl : lv_has ls 4 [(0, .ref h), (1, .int x1), (2, .int x2), (3, .int x3)] := hl
  have hown : s.vm.findClass "StackedRows" = some m.cls := hown
  refine lv_aload_n hx hb dd_SR_put_0 rfl (lv_at hl 0 rfl) ?_
  refine gf_SR_35 hx hb hts hown hK hP 0 rfl rfl dd_SR_put_1 ?_
  refine xc_Vi (wr := [oc_o h 0 [.ref tp, .ref wt, .ref ck, .ref sy, .ref sv, .ref rw, .ref lt]]) (k1 := 0) (k2 := 0) (As := []) (rest := []) (k := 0) hF hP hD hS (ct_sy_there l g sy p9) (xt_V ml_SR_108 wi_SY_isThere wx_SY_isThere wn_SY wc_SY_isThere) (by decide) 1 rfl rfl rfl [1] [0] ⟨rfl, rfl, by decide, by decide, by decide⟩ ⟨⟨Nat.le_of_ble_eq_true rfl, Nat.le_of_ble_eq_true rfl⟩, rfl, rfl, Nat.le_of_ble_eq_true rfl, Nat.le_of_ble_eq_true rfl⟩ rfl hl.1 rfl (Nat.le_of_ble_eq_true rfl) dd_SR_put_4 (fun r_1 u H locs hp hP hD hS => ?_)
  obtain rfl := hp
  have hP : va_P g.1 vwCl [oc_o h 0 [.ref tp, .ref wt, .ref ck, .ref sy, .ref sv, .ref rw, .ref lt], oc_o sy 7 [.ref p9, .int (nI 0), .int (nI 0)]] H := hP
  have hD : va_D A [oc_o h 0 [.ref tp, .ref wt, .ref ck, .ref sy, .ref sv, .ref rw, .ref lt], oc_o sy 7 [.ref p9, .int (nI 0), .int (nI 0)]] := hD
  refine lv_if_ne (tgt := 18) hx hb dd_SR_put_7 rfl (fun h_2 => absurd h_2 (by decide)) (fun _ => ?_)
  exact xt_throw (names := ["java/lang/RuntimeException", "java/lang/Exception"]) tw_SR_112 (by decide +kernel) (by decide +kernel) cl_SR_112 wk_XS wn_XS htr hx hb hlk hts hown hE hst hS hml hl.1 hQ dd_SR_put_10 dd_SR_put_13 dd_SR_put_14 dd_SR_put_17 (Nat.le_of_ble_eq_true rfl) (Nat.le_of_ble_eq_true rfl) (Nat.le_of_ble_eq_true rfl) (Nat.le_of_ble_eq_true rfl) (Nat.le_of_ble_eq_true rfl) (Nat.le_of_ble_eq_true rfl)

set_option maxHeartbeats 4000000 in
set_option maxRecDepth 100000 in
theorem cf_solve (l : Launch) (htr : l.stackTraces = false) (g : xg_G) (h : Nat) (tp : Nat) (wt : Nat) (ck : Nat) (sy : Nat) (sv : Nat) (rw : Nat) (lt : Nat) (p9 : Nat) : kc_T l yy_SR_solve cd_SR_solve 2 (some .int) { frames := 6, cells := 1, slots := 6, locals := 89 } g [.ref h] [oc_o h 0 [.ref tp, .ref wt, .ref ck, .ref sy, .ref sv, .ref rw, .ref lt], oc_o sy 7 [.ref p9, .int (nI 0), .int (nI 0)]] "java/lang/IllegalStateException" := by
  refine kc_Tof (by decide) (Nat.le_of_ble_eq_true rfl) ?_
  intro p e s m args below meth c A ls Q H locs hQ hB hP hS hst
  obtain ⟨hx, hb, hr, hlk, hin, hml, hown, hts, hA, hK, hD, hE, hl⟩ := hB
  have hF : xf_F g p m c cd_SR_solve 2 s args "StackedRows" A := ⟨⟨hx, hb, hml, hown, hts⟩, hE, hK, hA⟩
  have hl : lv_has ls 2 [(0, .ref h)] := hl
  have hown : s.vm.findClass "StackedRows" = some m.cls := hown
  refine lv_aload_n hx hb dd_SR_solve_0 rfl (lv_at hl 0 rfl) ?_
  refine gf_SR_35 hx hb hts hown hK hP 0 rfl rfl dd_SR_solve_1 ?_
  refine xc_Vi (wr := [oc_o h 0 [.ref tp, .ref wt, .ref ck, .ref sy, .ref sv, .ref rw, .ref lt]]) (k1 := 0) (k2 := 0) (As := []) (rest := []) (k := 0) hF hP hD hS (ct_sy_there l g sy p9) (xt_V ml_SR_108 wi_SY_isThere wx_SY_isThere wn_SY wc_SY_isThere) (by decide) 1 rfl rfl rfl [1] [0] ⟨rfl, rfl, by decide, by decide, by decide⟩ ⟨⟨Nat.le_of_ble_eq_true rfl, Nat.le_of_ble_eq_true rfl⟩, rfl, rfl, Nat.le_of_ble_eq_true rfl, Nat.le_of_ble_eq_true rfl⟩ rfl hl.1 rfl (Nat.le_of_ble_eq_true rfl) dd_SR_solve_4 (fun r_1 u H locs hp hP hD hS => ?_)
  obtain rfl := hp
  have hP : va_P g.1 vwCl [oc_o h 0 [.ref tp, .ref wt, .ref ck, .ref sy, .ref sv, .ref rw, .ref lt], oc_o sy 7 [.ref p9, .int (nI 0), .int (nI 0)]] H := hP
  have hD : va_D A [oc_o h 0 [.ref tp, .ref wt, .ref ck, .ref sy, .ref sv, .ref rw, .ref lt], oc_o sy 7 [.ref p9, .int (nI 0), .int (nI 0)]] := hD
  refine lv_if_ne (tgt := 18) hx hb dd_SR_solve_7 rfl (fun h_2 => absurd h_2 (by decide)) (fun _ => ?_)
  exact xt_throw (names := ["java/lang/RuntimeException", "java/lang/Exception"]) tw_SR_112 (by decide +kernel) (by decide +kernel) cl_SR_112 wk_XS wn_XS htr hx hb hlk hts hown hE hst hS hml hl.1 hQ dd_SR_solve_10 dd_SR_solve_13 dd_SR_solve_14 dd_SR_solve_17 (Nat.le_of_ble_eq_true rfl) (Nat.le_of_ble_eq_true rfl) (Nat.le_of_ble_eq_true rfl) (Nat.le_of_ble_eq_true rfl) (Nat.le_of_ble_eq_true rfl) (Nat.le_of_ble_eq_true rfl)

set_option maxHeartbeats 4000000 in
set_option maxRecDepth 100000 in
theorem cf_solved (l : Launch) (g : xg_G) (h : Nat) (tp : Nat) (wt : Nat) (ck : Nat) (sy : Nat) (sv : Nat) (rw : Nat) (lt : Nat) (k : Nat) (qk : k < 4) : kc_I l yy_SR_solved cd_SR_solved 2 .int { frames := 0, cells := 0, slots := 0, locals := 0 } g [.ref h, .int (nI k)] [oc_o h 0 [.ref tp, .ref wt, .ref ck, .ref sy, .ref sv, .ref rw, .ref lt], oc_i g lt 4 (fun _ => 0)] (S := Unit) (fun r0 _ => r0 = nI 0) (fun _ => []) := by
  refine kc_Iof (by decide) (Nat.le_of_ble_eq_true rfl) ?_
  intro p e s m args below meth c A ls Q H locs hQ hB hP hS
  obtain ⟨hx, hb, hr, hlk, hin, hml, hown, hts, hA, hK, hD, hE, hl⟩ := hB
  have hF : xf_F g p m c cd_SR_solved 2 s args "StackedRows" A := ⟨⟨hx, hb, hml, hown, hts⟩, hE, hK, hA⟩
  have hl : lv_has ls 2 [(0, .ref h), (1, .int (nI k))] := hl
  have hown : s.vm.findClass "StackedRows" = some m.cls := hown
  refine lv_iload_n hx hb dd_SR_solved_0 rfl (lv_at hl 1 rfl) ?_
  refine xb_zlt (tgt := 13) hx hb (by omega) dd_SR_solved_1 rfl ?_
  refine lv_iload_n hx hb dd_SR_solved_4 rfl (lv_at hl 1 rfl) ?_
  refine lv_aload_n hx hb dd_SR_solved_5 rfl (lv_at hl 0 rfl) ?_
  refine gf_SR_52 hx hb hts hown hK hP 0 rfl rfl dd_SR_solved_6 ?_
  refine xa_len hx hb hK hP 1 rfl dd_SR_solved_9 ?_
  refine xb_lt (tgt := 21) hx hb (by omega) (by omega) dd_SR_solved_10 rfl (fun h_1 => ?_) (fun h_1 => False.elim (by omega))
  refine lv_aload_n hx hb dd_SR_solved_21 rfl (lv_at hl 0 rfl) ?_
  refine gf_SR_52 hx hb hts hown hK hP 0 rfl rfl dd_SR_solved_22 ?_
  refine lv_iload_n hx hb dd_SR_solved_25 rfl (lv_at hl 1 rfl) ?_
  refine xa_ld hx hb hK hP 1 rfl (j := k) (by omega) (by omega) dd_SR_solved_26 ?_
  refine xi_eq (v := nI 0) (rfl) ?_
  exact xr_i hx hb hr hlk hQ hP hD hS () (by first | rfl | exact congrArg nI (by omega)) [] (by decide) rfl rfl (Nat.le_of_ble_eq_true rfl) (Nat.le_of_ble_eq_true rfl) dd_SR_solved_27

set_option maxHeartbeats 4000000 in
set_option maxRecDepth 100000 in
theorem cf_solvedT (l : Launch) (htr : l.stackTraces = false) (g : xg_G) (h : Nat) (tp : Nat) (wt : Nat) (ck : Nat) (sy : Nat) (sv : Nat) (rw : Nat) (lt : Nat) (x1 : Int32) (qx : x1.toInt < 0 ∨ 4 ≤ x1.toInt) : kc_T l yy_SR_solved cd_SR_solved 2 (some .int) { frames := 6, cells := 1, slots := 6, locals := 89 } g [.ref h, .int x1] [oc_o h 0 [.ref tp, .ref wt, .ref ck, .ref sy, .ref sv, .ref rw, .ref lt], oc_i g lt 4 (fun _ => 0)] "java/lang/IndexOutOfBoundsException" := by
  refine kc_Tof (by decide) (Nat.le_of_ble_eq_true rfl) ?_
  intro p e s m args below meth c A ls Q H locs hQ hB hP hS hst
  obtain ⟨hx, hb, hr, hlk, hin, hml, hown, hts, hA, hK, hD, hE, hl⟩ := hB
  have hF : xf_F g p m c cd_SR_solved 2 s args "StackedRows" A := ⟨⟨hx, hb, hml, hown, hts⟩, hE, hK, hA⟩
  have hl : lv_has ls 2 [(0, .ref h), (1, .int x1)] := hl
  have hown : s.vm.findClass "StackedRows" = some m.cls := hown
  refine lv_iload_n hx hb dd_SR_solved_0 rfl (lv_at hl 1 rfl) ?_
  refine xb_r0lt (tgt := 13) hx hb dd_SR_solved_1 rfl (fun h_1 => ?_) (fun h_1 => ?_)
  · exact xt_throw (names := ["java/lang/RuntimeException", "java/lang/Exception"]) tw_SR_75 (by decide +kernel) (by decide +kernel) cl_SR_75 wk_XI wn_XI htr hx hb hlk hts hown hE hst hS hml hl.1 hQ dd_SR_solved_13 dd_SR_solved_16 dd_SR_solved_17 dd_SR_solved_20 (Nat.le_of_ble_eq_true rfl) (Nat.le_of_ble_eq_true rfl) (Nat.le_of_ble_eq_true rfl) (Nat.le_of_ble_eq_true rfl) (Nat.le_of_ble_eq_true rfl) (Nat.le_of_ble_eq_true rfl)
  · refine lv_iload_n hx hb dd_SR_solved_4 rfl (lv_at hl 1 rfl) ?_
    refine lv_aload_n hx hb dd_SR_solved_5 rfl (lv_at hl 0 rfl) ?_
    refine gf_SR_52 hx hb hts hown hK hP 0 rfl rfl dd_SR_solved_6 ?_
    refine xa_len hx hb hK hP 1 rfl dd_SR_solved_9 ?_
    refine xb_rlt (tgt := 21) hx hb (by omega) dd_SR_solved_10 rfl (fun h_2 => False.elim (by omega)) (fun h_2 => ?_)
    exact xt_throw (names := ["java/lang/RuntimeException", "java/lang/Exception"]) tw_SR_75 (by decide +kernel) (by decide +kernel) cl_SR_75 wk_XI wn_XI htr hx hb hlk hts hown hE hst hS hml hl.1 hQ dd_SR_solved_13 dd_SR_solved_16 dd_SR_solved_17 dd_SR_solved_20 (Nat.le_of_ble_eq_true rfl) (Nat.le_of_ble_eq_true rfl) (Nat.le_of_ble_eq_true rfl) (Nat.le_of_ble_eq_true rfl) (Nat.le_of_ble_eq_true rfl) (Nat.le_of_ble_eq_true rfl)

set_option maxHeartbeats 4000000 in
set_option maxRecDepth 100000 in
theorem cf_count (l : Launch) (g : xg_G) (h : Nat) (tp : Nat) (wt : Nat) (ck : Nat) (sy : Nat) (sv : Nat) (rw : Nat) (lt : Nat) (tb : Nat) (p9 : Nat) (k : Nat) (qk : k < 3) : kc_I l yy_SR_count cd_SR_count 2 .int { frames := 1, cells := 0, slots := 0, locals := 20 } g [.ref h, .int (nI k)] [oc_o h 0 [.ref tp, .ref wt, .ref ck, .ref sy, .ref sv, .ref rw, .ref lt], oc_o tp 8 [.ref tb, .int (nI 0)], oc_o sy 7 [.ref p9, .int (nI 0), .int (nI 0)]] (S := Unit) (fun r0 _ => r0 = nI 0) (fun _ => []) := by
  refine kc_Iof (by decide) (Nat.le_of_ble_eq_true rfl) ?_
  intro p e s m args below meth c A ls Q H locs hQ hB hP hS
  obtain ⟨hx, hb, hr, hlk, hin, hml, hown, hts, hA, hK, hD, hE, hl⟩ := hB
  have hF : xf_F g p m c cd_SR_count 2 s args "StackedRows" A := ⟨⟨hx, hb, hml, hown, hts⟩, hE, hK, hA⟩
  have hl : lv_has ls 2 [(0, .ref h), (1, .int (nI k))] := hl
  have hown : s.vm.findClass "StackedRows" = some m.cls := hown
  refine lv_iload_n hx hb dd_SR_count_0 rfl (lv_at hl 1 rfl) ?_
  refine xb_zlt (tgt := 9) hx hb (by omega) dd_SR_count_1 rfl ?_
  refine lv_iload_n hx hb dd_SR_count_4 rfl (lv_at hl 1 rfl) ?_
  refine lv_iconst (v := nI 2) hx hb dd_SR_count_5 (by decide) ?_
  refine xb_le (tgt := 17) hx hb (by omega) (by omega) dd_SR_count_6 rfl (fun h_1 => ?_) (fun h_1 => False.elim (by omega))
  refine lv_iload_n hx hb dd_SR_count_17 rfl (lv_at hl 1 rfl) ?_
  refine xb_zne (tgt := 29) hx hb (by omega) dd_SR_count_18 rfl (fun h_2 => ?_) (fun h_2 => ?_)
  · refine lv_iload_n hx hb dd_SR_count_29 rfl (lv_at hl 1 rfl) ?_
    refine lv_iconst (v := nI 1) hx hb dd_SR_count_30 (by decide) ?_
    refine xb_ne (tgt := 44) hx hb (by omega) (by omega) dd_SR_count_31 rfl (fun h_3 => ?_) (fun h_3 => ?_)
    · refine lv_aload_n hx hb dd_SR_count_44 rfl (lv_at hl 0 rfl) ?_
      refine gf_SR_35 hx hb hts hown hK hP 0 rfl rfl dd_SR_count_45 ?_
      refine xc_Vi (wr := [oc_o h 0 [.ref tp, .ref wt, .ref ck, .ref sy, .ref sv, .ref rw, .ref lt], oc_o tp 8 [.ref tb, .int (nI 0)]]) (k1 := 0) (k2 := 0) (As := []) (rest := []) (k := 0) hF hP hD hS (ct_sy_columns l g sy p9 0 0) (xt_V ml_SR_148 wi_SY_columns wx_SY_columns wn_SY wc_SY_columns) (by decide) 2 rfl rfl rfl [2] [0, 1] ⟨rfl, rfl, by decide, by decide, by decide⟩ ⟨⟨Nat.le_of_ble_eq_true rfl, Nat.le_of_ble_eq_true rfl⟩, rfl, rfl, Nat.le_of_ble_eq_true rfl, Nat.le_of_ble_eq_true rfl⟩ rfl hl.1 rfl (Nat.le_of_ble_eq_true rfl) dd_SR_count_48 (fun r_4 u H locs hp hP hD hS => ?_)
      obtain rfl := hp
      have hP : va_P g.1 vwCl [oc_o h 0 [.ref tp, .ref wt, .ref ck, .ref sy, .ref sv, .ref rw, .ref lt], oc_o tp 8 [.ref tb, .int (nI 0)], oc_o sy 7 [.ref p9, .int (nI 0), .int (nI 0)]] H := hP
      have hD : va_D A [oc_o h 0 [.ref tp, .ref wt, .ref ck, .ref sy, .ref sv, .ref rw, .ref lt], oc_o tp 8 [.ref tb, .int (nI 0)], oc_o sy 7 [.ref p9, .int (nI 0), .int (nI 0)]] := hD
      exact xr_i hx hb hr hlk hQ hP hD hS () (by first | rfl | exact congrArg nI (by omega)) [] (by decide) rfl rfl (Nat.le_of_ble_eq_true rfl) (Nat.le_of_ble_eq_true rfl) dd_SR_count_51
    · refine lv_aload_n hx hb dd_SR_count_34 rfl (lv_at hl 0 rfl) ?_
      refine gf_SR_35 hx hb hts hown hK hP 0 rfl rfl dd_SR_count_35 ?_
      refine xc_Vi (wr := [oc_o h 0 [.ref tp, .ref wt, .ref ck, .ref sy, .ref sv, .ref rw, .ref lt], oc_o tp 8 [.ref tb, .int (nI 0)]]) (k1 := 0) (k2 := 0) (As := []) (rest := []) (k := 0) hF hP hD hS (ct_sy_rows l g sy p9 0 0) (xt_V ml_SR_145 wi_SY_rows wx_SY_rows wn_SY wc_SY_rows) (by decide) 2 rfl rfl rfl [2] [0, 1] ⟨rfl, rfl, by decide, by decide, by decide⟩ ⟨⟨Nat.le_of_ble_eq_true rfl, Nat.le_of_ble_eq_true rfl⟩, rfl, rfl, Nat.le_of_ble_eq_true rfl, Nat.le_of_ble_eq_true rfl⟩ rfl hl.1 rfl (Nat.le_of_ble_eq_true rfl) dd_SR_count_38 (fun r_5 u H locs hp hP hD hS => ?_)
      obtain rfl := hp
      have hP : va_P g.1 vwCl [oc_o h 0 [.ref tp, .ref wt, .ref ck, .ref sy, .ref sv, .ref rw, .ref lt], oc_o tp 8 [.ref tb, .int (nI 0)], oc_o sy 7 [.ref p9, .int (nI 0), .int (nI 0)]] H := hP
      have hD : va_D A [oc_o h 0 [.ref tp, .ref wt, .ref ck, .ref sy, .ref sv, .ref rw, .ref lt], oc_o tp 8 [.ref tb, .int (nI 0)], oc_o sy 7 [.ref p9, .int (nI 0), .int (nI 0)]] := hD
      refine lv_goto (tgt := 51) hx hb dd_SR_count_41 rfl ?_
      exact xr_i hx hb hr hlk hQ hP hD hS () (by first | rfl | exact congrArg nI (by omega)) [] (by decide) rfl rfl (Nat.le_of_ble_eq_true rfl) (Nat.le_of_ble_eq_true rfl) dd_SR_count_51
  · refine lv_aload_n hx hb dd_SR_count_21 rfl (lv_at hl 0 rfl) ?_
    refine gf_SR_12 hx hb hts hown hK hP 0 rfl rfl dd_SR_count_22 ?_
    refine xc_Vi (wr := [oc_o h 0 [.ref tp, .ref wt, .ref ck, .ref sy, .ref sv, .ref rw, .ref lt], oc_o sy 7 [.ref p9, .int (nI 0), .int (nI 0)]]) (k1 := 0) (k2 := 0) (As := []) (rest := []) (k := 0) hF hP hD hS (ct_tape_size l g tp tb 0) (xt_V ml_SR_55 wi_TP_size wx_TP_size wn_TP wc_TP_size) (by decide) 1 rfl rfl rfl [1] [0, 2] ⟨rfl, rfl, by decide, by decide, by decide⟩ ⟨⟨Nat.le_of_ble_eq_true rfl, Nat.le_of_ble_eq_true rfl⟩, rfl, rfl, Nat.le_of_ble_eq_true rfl, Nat.le_of_ble_eq_true rfl⟩ rfl hl.1 rfl (Nat.le_of_ble_eq_true rfl) dd_SR_count_25 (fun r_6 u H locs hp hP hD hS => ?_)
    obtain rfl := hp
    have hP : va_P g.1 vwCl [oc_o h 0 [.ref tp, .ref wt, .ref ck, .ref sy, .ref sv, .ref rw, .ref lt], oc_o sy 7 [.ref p9, .int (nI 0), .int (nI 0)], oc_o tp 8 [.ref tb, .int (nI 0)]] H := hP
    have hD : va_D A [oc_o h 0 [.ref tp, .ref wt, .ref ck, .ref sy, .ref sv, .ref rw, .ref lt], oc_o sy 7 [.ref p9, .int (nI 0), .int (nI 0)], oc_o tp 8 [.ref tb, .int (nI 0)]] := hD
    exact xr_i hx hb hr hlk hQ hP hD hS () (by first | rfl | exact congrArg nI (by omega)) [] (by decide) rfl rfl (Nat.le_of_ble_eq_true rfl) (Nat.le_of_ble_eq_true rfl) dd_SR_count_28

set_option maxHeartbeats 4000000 in
set_option maxRecDepth 100000 in
theorem cf_countT (l : Launch) (htr : l.stackTraces = false) (g : xg_G) (h : Nat) (tp : Nat) (wt : Nat) (ck : Nat) (sy : Nat) (sv : Nat) (rw : Nat) (lt : Nat) (x1 : Int32) (qx : x1.toInt < 0 ∨ 3 ≤ x1.toInt) : kc_T l yy_SR_count cd_SR_count 2 (some .int) { frames := 6, cells := 1, slots := 6, locals := 89 } g [.ref h, .int x1] [oc_o h 0 [.ref tp, .ref wt, .ref ck, .ref sy, .ref sv, .ref rw, .ref lt]] "java/lang/IllegalArgumentException" := by
  refine kc_Tof (by decide) (Nat.le_of_ble_eq_true rfl) ?_
  intro p e s m args below meth c A ls Q H locs hQ hB hP hS hst
  obtain ⟨hx, hb, hr, hlk, hin, hml, hown, hts, hA, hK, hD, hE, hl⟩ := hB
  have hF : xf_F g p m c cd_SR_count 2 s args "StackedRows" A := ⟨⟨hx, hb, hml, hown, hts⟩, hE, hK, hA⟩
  have hl : lv_has ls 2 [(0, .ref h), (1, .int x1)] := hl
  have hown : s.vm.findClass "StackedRows" = some m.cls := hown
  refine lv_iload_n hx hb dd_SR_count_0 rfl (lv_at hl 1 rfl) ?_
  refine xb_r0lt (tgt := 9) hx hb dd_SR_count_1 rfl (fun h_1 => ?_) (fun h_1 => ?_)
  · exact xt_throw (names := ["java/lang/RuntimeException", "java/lang/Exception"]) tw_SR_69 (by decide +kernel) (by decide +kernel) cl_SR_69 wk_XA wn_XA htr hx hb hlk hts hown hE hst hS hml hl.1 hQ dd_SR_count_9 dd_SR_count_12 dd_SR_count_13 dd_SR_count_16 (Nat.le_of_ble_eq_true rfl) (Nat.le_of_ble_eq_true rfl) (Nat.le_of_ble_eq_true rfl) (Nat.le_of_ble_eq_true rfl) (Nat.le_of_ble_eq_true rfl) (Nat.le_of_ble_eq_true rfl)
  · refine lv_iload_n hx hb dd_SR_count_4 rfl (lv_at hl 1 rfl) ?_
    refine lv_iconst (v := nI 2) hx hb dd_SR_count_5 (by decide) ?_
    refine xb_rle (tgt := 17) hx hb (by omega) dd_SR_count_6 rfl (fun h_2 => False.elim (by omega)) (fun h_2 => ?_)
    exact xt_throw (names := ["java/lang/RuntimeException", "java/lang/Exception"]) tw_SR_69 (by decide +kernel) (by decide +kernel) cl_SR_69 wk_XA wn_XA htr hx hb hlk hts hown hE hst hS hml hl.1 hQ dd_SR_count_9 dd_SR_count_12 dd_SR_count_13 dd_SR_count_16 (Nat.le_of_ble_eq_true rfl) (Nat.le_of_ble_eq_true rfl) (Nat.le_of_ble_eq_true rfl) (Nat.le_of_ble_eq_true rfl) (Nat.le_of_ble_eq_true rfl) (Nat.le_of_ble_eq_true rfl)
end
