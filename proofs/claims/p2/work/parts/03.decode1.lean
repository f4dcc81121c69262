theorem dd_TP_init_0 : decode cd_TP_init 0 = .ok (.aload_n 0, 1) := by decide +kernel
theorem dd_TP_init_1 : decode cd_TP_init 1 = .ok (.invokespecial 3, 3) := by decide +kernel
theorem dd_TP_init_4 : decode cd_TP_init 4 = .ok (.aload_n 0, 1) := by decide +kernel
theorem dd_TP_init_5 : decode cd_TP_init 5 = .ok (.sipush 1200, 3) := by decide +kernel
theorem dd_TP_init_8 : decode cd_TP_init 8 = .ok (.newarray .int, 2) := by decide +kernel
theorem dd_TP_init_10 : decode cd_TP_init 10 = .ok (.putfield 9, 3) := by decide +kernel
theorem dd_TP_init_13 : decode cd_TP_init 13 = .ok (.aload_n 0, 1) := by decide +kernel
theorem dd_TP_init_14 : decode cd_TP_init 14 = .ok (.iconst 0, 1) := by decide +kernel
theorem dd_TP_init_15 : decode cd_TP_init 15 = .ok (.putfield 15, 3) := by decide +kernel
theorem dd_TP_init_18 : decode cd_TP_init 18 = .ok (.return_, 1) := by decide +kernel
theorem dd_TP_size_0 : decode cd_TP_size 0 = .ok (.aload_n 0, 1) := by decide +kernel
theorem dd_TP_size_1 : decode cd_TP_size 1 = .ok (.getfield 15, 3) := by decide +kernel
theorem dd_TP_size_4 : decode cd_TP_size 4 = .ok (.ireturn, 1) := by decide +kernel
theorem dd_TP_add_0 : decode cd_TP_add 0 = .ok (.aload_n 0, 1) := by decide +kernel
theorem dd_TP_add_1 : decode cd_TP_add 1 = .ok (.getfield 15, 3) := by decide +kernel
theorem dd_TP_add_4 : decode cd_TP_add 4 = .ok (.sipush 1200, 3) := by decide +kernel
theorem dd_TP_add_7 : decode cd_TP_add 7 = .ok (.if_icmp .ge 13, 3) := by decide +kernel
theorem dd_TP_add_10 : decode cd_TP_add 10 = .ok (.aload_n 0, 1) := by decide +kernel
theorem dd_TP_add_11 : decode cd_TP_add 11 = .ok (.getfield 9, 3) := by decide +kernel
theorem dd_TP_add_14 : decode cd_TP_add 14 = .ok (.aload_n 0, 1) := by decide +kernel
theorem dd_TP_add_15 : decode cd_TP_add 15 = .ok (.getfield 15, 3) := by decide +kernel
theorem dd_TP_add_18 : decode cd_TP_add 18 = .ok (.iload_n 1, 1) := by decide +kernel
theorem dd_TP_add_19 : decode cd_TP_add 19 = .ok (.iastore, 1) := by decide +kernel
theorem dd_TP_add_20 : decode cd_TP_add 20 = .ok (.aload_n 0, 1) := by decide +kernel
theorem dd_TP_add_21 : decode cd_TP_add 21 = .ok (.dup, 1) := by decide +kernel
theorem dd_TP_add_22 : decode cd_TP_add 22 = .ok (.getfield 15, 3) := by decide +kernel
theorem dd_TP_add_25 : decode cd_TP_add 25 = .ok (.iconst 1, 1) := by decide +kernel
theorem dd_TP_add_26 : decode cd_TP_add 26 = .ok (.iadd, 1) := by decide +kernel
theorem dd_TP_add_27 : decode cd_TP_add 27 = .ok (.putfield 15, 3) := by decide +kernel
theorem dd_TP_add_30 : decode cd_TP_add 30 = .ok (.return_, 1) := by decide +kernel
theorem dd_TP_addFour_0 : decode cd_TP_addFour 0 = .ok (.bipush 24, 2) := by decide +kernel
theorem dd_TP_addFour_2 : decode cd_TP_addFour 2 = .ok (.istore_n 2, 1) := by decide +kernel
theorem dd_TP_addFour_3 : decode cd_TP_addFour 3 = .ok (.iload_n 2, 1) := by decide +kernel
theorem dd_TP_addFour_4 : decode cd_TP_addFour 4 = .ok (.ifCond .lt 20, 3) := by decide +kernel
theorem dd_TP_addFour_7 : decode cd_TP_addFour 7 = .ok (.aload_n 0, 1) := by decide +kernel
theorem dd_TP_addFour_8 : decode cd_TP_addFour 8 = .ok (.iload_n 1, 1) := by decide +kernel
theorem dd_TP_addFour_9 : decode cd_TP_addFour 9 = .ok (.iload_n 2, 1) := by decide +kernel
theorem dd_TP_addFour_10 : decode cd_TP_addFour 10 = .ok (.ishr, 1) := by decide +kernel
theorem dd_TP_addFour_11 : decode cd_TP_addFour 11 = .ok (.sipush 255, 3) := by decide +kernel
theorem dd_TP_addFour_14 : decode cd_TP_addFour 14 = .ok (.iand, 1) := by decide +kernel
theorem dd_TP_addFour_15 : decode cd_TP_addFour 15 = .ok (.invokevirtual 19, 3) := by decide +kernel
theorem dd_TP_addFour_18 : decode cd_TP_addFour 18 = .ok (.iinc 2 (-8), 3) := by decide +kernel
theorem dd_TP_addFour_21 : decode cd_TP_addFour 21 = .ok (.goto (-18), 3) := by decide +kernel
theorem dd_TP_addFour_24 : decode cd_TP_addFour 24 = .ok (.return_, 1) := by decide +kernel
theorem dd_TP_cut_0 : decode cd_TP_cut 0 = .ok (.aload_n 0, 1) := by decide +kernel
theorem dd_TP_cut_1 : decode cd_TP_cut 1 = .ok (.iload_n 1, 1) := by decide +kernel
theorem dd_TP_cut_2 : decode cd_TP_cut 2 = .ok (.putfield 15, 3) := by decide +kernel
theorem dd_TP_cut_5 : decode cd_TP_cut 5 = .ok (.return_, 1) := by decide +kernel
theorem dd_CW_init_0 : decode cd_CW_init 0 = .ok (.aload_n 0, 1) := by decide +kernel
theorem dd_CW_init_1 : decode cd_CW_init 1 = .ok (.invokespecial 3, 3) := by decide +kernel
theorem dd_CW_init_4 : decode cd_CW_init 4 = .ok (.aload_n 0, 1) := by decide +kernel
theorem dd_CW_init_5 : decode cd_CW_init 5 = .ok (.sipush 2400, 3) := by decide +kernel
theorem dd_CW_init_8 : decode cd_CW_init 8 = .ok (.newarray .int, 2) := by decide +kernel
theorem dd_CW_init_10 : decode cd_CW_init 10 = .ok (.putfield 9, 3) := by decide +kernel
theorem dd_CW_init_13 : decode cd_CW_init 13 = .ok (.aload_n 0, 1) := by decide +kernel
theorem dd_CW_init_14 : decode cd_CW_init 14 = .ok (.iconst 0, 1) := by decide +kernel
theorem dd_CW_init_15 : decode cd_CW_init 15 = .ok (.putfield 15, 3) := by decide +kernel
theorem dd_CW_init_18 : decode cd_CW_init 18 = .ok (.return_, 1) := by decide +kernel
theorem dd_CW_size_0 : decode cd_CW_size 0 = .ok (.aload_n 0, 1) := by decide +kernel
theorem dd_CW_size_1 : decode cd_CW_size 1 = .ok (.getfield 15, 3) := by decide +kernel
theorem dd_CW_size_4 : decode cd_CW_size 4 = .ok (.ireturn, 1) := by decide +kernel
theorem dd_CW_clear_0 : decode cd_CW_clear 0 = .ok (.aload_n 0, 1) := by decide +kernel
theorem dd_CW_clear_1 : decode cd_CW_clear 1 = .ok (.iconst 0, 1) := by decide +kernel
theorem dd_CW_clear_2 : decode cd_CW_clear 2 = .ok (.putfield 15, 3) := by decide +kernel
theorem dd_CW_clear_5 : decode cd_CW_clear 5 = .ok (.return_, 1) := by decide +kernel
theorem dd_BN_init_0 : decode cd_BN_init 0 = .ok (.aload_n 0, 1) := by decide +kernel
theorem dd_BN_init_1 : decode cd_BN_init 1 = .ok (.invokespecial 1, 3) := by decide +kernel
theorem dd_BN_init_4 : decode cd_BN_init 4 = .ok (.aload_n 0, 1) := by decide +kernel
theorem dd_BN_init_5 : decode cd_BN_init 5 = .ok (.iload_n 1, 1) := by decide +kernel
theorem dd_BN_init_6 : decode cd_BN_init 6 = .ok (.iconst 2, 1) := by decide +kernel
theorem dd_BN_init_7 : decode cd_BN_init 7 = .ok (.invokestatic 7, 3) := by decide +kernel
theorem dd_BN_init_10 : decode cd_BN_init 10 = .ok (.putfield 13, 3) := by decide +kernel
theorem dd_BN_init_13 : decode cd_BN_init 13 = .ok (.aload_n 0, 1) := by decide +kernel
theorem dd_BN_init_14 : decode cd_BN_init 14 = .ok (.iload_n 2, 1) := by decide +kernel
theorem dd_BN_init_15 : decode cd_BN_init 15 = .ok (.iconst 1, 1) := by decide +kernel
theorem dd_BN_init_16 : decode cd_BN_init 16 = .ok (.invokestatic 7, 3) := by decide +kernel
theorem dd_BN_init_19 : decode cd_BN_init 19 = .ok (.newarray .int, 2) := by decide +kernel
theorem dd_BN_init_21 : decode cd_BN_init 21 = .ok (.putfield 19, 3) := by decide +kernel
theorem dd_BN_init_24 : decode cd_BN_init 24 = .ok (.return_, 1) := by decide +kernel
theorem dd_TW_init_0 : decode cd_TW_init 0 = .ok (.aload_n 0, 1) := by decide +kernel
theorem dd_TW_init_1 : decode cd_TW_init 1 = .ok (.invokespecial 3, 3) := by decide +kernel
theorem dd_TW_init_4 : decode cd_TW_init 4 = .ok (.aload_n 0, 1) := by decide +kernel
theorem dd_TW_init_5 : decode cd_TW_init 5 = .ok (.aload_n 1, 1) := by decide +kernel
theorem dd_TW_init_6 : decode cd_TW_init 6 = .ok (.putfield 9, 3) := by decide +kernel
theorem dd_TW_init_9 : decode cd_TW_init 9 = .ok (.aload_n 0, 1) := by decide +kernel
theorem dd_TW_init_10 : decode cd_TW_init 10 = .ok (.getstatic 15, 3) := by decide +kernel
theorem dd_TW_init_13 : decode cd_TW_init 13 = .ok (.putfield 21, 3) := by decide +kernel
theorem dd_TW_init_16 : decode cd_TW_init 16 = .ok (.aload_n 0, 1) := by decide +kernel
theorem dd_TW_init_17 : decode cd_TW_init 17 = .ok (.iconst (-1), 1) := by decide +kernel
theorem dd_TW_init_18 : decode cd_TW_init 18 = .ok (.putfield 24, 3) := by decide +kernel
theorem dd_TW_init_21 : decode cd_TW_init 21 = .ok (.return_, 1) := by decide +kernel
theorem dd_TW_beginWithCapitals_0 : decode cd_TW_beginWithCapitals 0 = .ok (.aload_n 0, 1) := by decide +kernel
theorem dd_TW_beginWithCapitals_1 : decode cd_TW_beginWithCapitals 1 = .ok (.getstatic 15, 3) := by decide +kernel
theorem dd_TW_beginWithCapitals_4 : decode cd_TW_beginWithCapitals 4 = .ok (.putfield 21, 3) := by decide +kernel
theorem dd_TW_beginWithCapitals_7 : decode cd_TW_beginWithCapitals 7 = .ok (.return_, 1) := by decide +kernel
theorem dd_WR_init_0 : decode cd_WR_init 0 = .ok (.aload_n 0, 1) := by decide +kernel
theorem dd_WR_init_1 : decode cd_WR_init 1 = .ok (.invokespecial 3, 3) := by decide +kernel
theorem dd_WR_init_4 : decode cd_WR_init 4 = .ok (.aload_n 0, 1) := by decide +kernel
theorem dd_WR_init_5 : decode cd_WR_init 5 = .ok (.aload_n 1, 1) := by decide +kernel
theorem dd_WR_init_6 : decode cd_WR_init 6 = .ok (.putfield 9, 3) := by decide +kernel
theorem dd_WR_init_9 : decode cd_WR_init 9 = .ok (.aload_n 0, 1) := by decide +kernel
theorem dd_WR_init_10 : decode cd_WR_init 10 = .ok (.new 15, 3) := by decide +kernel
theorem dd_WR_init_13 : decode cd_WR_init 13 = .ok (.dup, 1) := by decide +kernel
theorem dd_WR_init_14 : decode cd_WR_init 14 = .ok (.invokespecial 17, 3) := by decide +kernel
theorem dd_WR_init_17 : decode cd_WR_init 17 = .ok (.putfield 18, 3) := by decide +kernel
theorem dd_WR_init_20 : decode cd_WR_init 20 = .ok (.aload_n 0, 1) := by decide +kernel
theorem dd_WR_init_21 : decode cd_WR_init 21 = .ok (.new 22, 3) := by decide +kernel
theorem dd_WR_init_24 : decode cd_WR_init 24 = .ok (.dup, 1) := by decide +kernel
theorem dd_WR_init_25 : decode cd_WR_init 25 = .ok (.aload_n 0, 1) := by decide +kernel
theorem dd_WR_init_26 : decode cd_WR_init 26 = .ok (.getfield 18, 3) := by decide +kernel
theorem dd_WR_init_29 : decode cd_WR_init 29 = .ok (.invokespecial 24, 3) := by decide +kernel
theorem dd_WR_init_32 : decode cd_WR_init 32 = .ok (.putfield 27, 3) := by decide +kernel
theorem dd_WR_init_35 : decode cd_WR_init 35 = .ok (.aload_n 0, 1) := by decide +kernel
theorem dd_WR_init_36 : decode cd_WR_init 36 = .ok (.new 31, 3) := by decide +kernel
theorem dd_WR_init_39 : decode cd_WR_init 39 = .ok (.dup, 1) := by decide +kernel
theorem dd_WR_init_40 : decode cd_WR_init 40 = .ok (.sipush 900, 3) := by decide +kernel
theorem dd_WR_init_43 : decode cd_WR_init 43 = .ok (.bipush 15, 2) := by decide +kernel
theorem dd_WR_init_45 : decode cd_WR_init 45 = .ok (.invokespecial 33, 3) := by decide +kernel
theorem dd_WR_init_48 : decode cd_WR_init 48 = .ok (.putfield 36, 3) := by decide +kernel
theorem dd_WR_init_51 : decode cd_WR_init 51 = .ok (.aload_n 0, 1) := by decide +kernel
theorem dd_WR_init_52 : decode cd_WR_init 52 = .ok (.sipush 1201, 3) := by decide +kernel
theorem dd_WR_init_55 : decode cd_WR_init 55 = .ok (.newarray .int, 2) := by decide +kernel
theorem dd_WR_init_57 : decode cd_WR_init 57 = .ok (.putfield 40, 3) := by decide +kernel
theorem dd_WR_init_60 : decode cd_WR_init 60 = .ok (.aload_n 0, 1) := by decide +kernel
theorem dd_WR_init_61 : decode cd_WR_init 61 = .ok (.sipush 1201, 3) := by decide +kernel
theorem dd_WR_init_64 : decode cd_WR_init 64 = .ok (.newarray .int, 2) := by decide +kernel
theorem dd_WR_init_66 : decode cd_WR_init 66 = .ok (.putfield 44, 3) := by decide +kernel
theorem dd_WR_init_69 : decode cd_WR_init 69 = .ok (.aload_n 0, 1) := by decide +kernel
theorem dd_WR_init_70 : decode cd_WR_init 70 = .ok (.sipush 900, 3) := by decide +kernel
theorem dd_WR_init_73 : decode cd_WR_init 73 = .ok (.putfield 47, 3) := by decide +kernel
theorem dd_WR_init_76 : decode cd_WR_init 76 = .ok (.aload_n 0, 1) := by decide +kernel
theorem dd_WR_init_77 : decode cd_WR_init 77 = .ok (.iconst 0, 1) := by decide +kernel
theorem dd_WR_init_78 : decode cd_WR_init 78 = .ok (.putfield 51, 3) := by decide +kernel
theorem dd_WR_init_81 : decode cd_WR_init 81 = .ok (.return_, 1) := by decide +kernel
theorem dd_WR_forget_0 : decode cd_WR_forget 0 = .ok (.aload_n 0, 1) := by decide +kernel
theorem dd_WR_forget_1 : decode cd_WR_forget 1 = .ok (.iconst 0, 1) := by decide +kernel
theorem dd_WR_forget_2 : decode cd_WR_forget 2 = .ok (.putfield 51, 3) := by decide +kernel
theorem dd_WR_forget_5 : decode cd_WR_forget 5 = .ok (.return_, 1) := by decide +kernel
theorem dd_WR_size_0 : decode cd_WR_size 0 = .ok (.aload_n 0, 1) := by decide +kernel
theorem dd_WR_size_1 : decode cd_WR_size 1 = .ok (.getfield 18, 3) := by decide +kernel
theorem dd_WR_size_4 : decode cd_WR_size 4 = .ok (.invokevirtual 55, 3) := by decide +kernel
theorem dd_WR_size_7 : decode cd_WR_size 7 = .ok (.ireturn, 1) := by decide +kernel
theorem dd_WR_measure_0 : decode cd_WR_measure 0 = .ok (.aload_n 0, 1) := by decide +kernel
theorem dd_WR_measure_1 : decode cd_WR_measure 1 = .ok (.getfield 40, 3) := by decide +kernel
theorem dd_WR_measure_4 : decode cd_WR_measure 4 = .ok (.iload_n 1, 1) := by decide +kernel
theorem dd_WR_measure_5 : decode cd_WR_measure 5 = .ok (.iconst 0, 1) := by decide +kernel
theorem dd_WR_measure_6 : decode cd_WR_measure 6 = .ok (.iastore, 1) := by decide +kernel
theorem dd_WR_measure_7 : decode cd_WR_measure 7 = .ok (.aload_n 0, 1) := by decide +kernel
theorem dd_WR_measure_8 : decode cd_WR_measure 8 = .ok (.getfield 44, 3) := by decide +kernel
theorem dd_WR_measure_11 : decode cd_WR_measure 11 = .ok (.iload_n 1, 1) := by decide +kernel
theorem dd_WR_measure_12 : decode cd_WR_measure 12 = .ok (.iconst 0, 1) := by decide +kernel
theorem dd_WR_measure_13 : decode cd_WR_measure 13 = .ok (.iastore, 1) := by decide +kernel
theorem dd_WR_measure_14 : decode cd_WR_measure 14 = .ok (.iload_n 1, 1) := by decide +kernel
theorem dd_WR_measure_15 : decode cd_WR_measure 15 = .ok (.iconst 1, 1) := by decide +kernel
theorem dd_WR_measure_16 : decode cd_WR_measure 16 = .ok (.isub, 1) := by decide +kernel
theorem dd_WR_measure_17 : decode cd_WR_measure 17 = .ok (.istore_n 2, 1) := by decide +kernel
theorem dd_WR_measure_18 : decode cd_WR_measure 18 = .ok (.iload_n 2, 1) := by decide +kernel
theorem dd_WR_measure_19 : decode cd_WR_measure 19 = .ok (.ifCond .lt 82, 3) := by decide +kernel
theorem dd_WR_measure_101 : decode cd_WR_measure 101 = .ok (.return_, 1) := by decide +kernel
theorem dd_WR_write_0 : decode cd_WR_write 0 = .ok (.aload_n 0, 1) := by decide +kernel
theorem dd_WR_write_1 : decode cd_WR_write 1 = .ok (.getfield 51, 3) := by decide +kernel
theorem dd_WR_write_4 : decode cd_WR_write 4 = .ok (.ifCond .eq 4, 3) := by decide +kernel
theorem dd_WR_write_8 : decode cd_WR_write 8 = .ok (.aload_n 0, 1) := by decide +kernel
theorem dd_WR_write_9 : decode cd_WR_write 9 = .ok (.iconst 1, 1) := by decide +kernel
theorem dd_WR_write_10 : decode cd_WR_write 10 = .ok (.putfield 51, 3) := by decide +kernel
theorem dd_WR_write_13 : decode cd_WR_write 13 = .ok (.aload_n 0, 1) := by decide +kernel
theorem dd_WR_write_14 : decode cd_WR_write 14 = .ok (.aload_n 0, 1) := by decide +kernel
theorem dd_WR_write_15 : decode cd_WR_write 15 = .ok (.getfield 9, 3) := by decide +kernel
theorem dd_WR_write_18 : decode cd_WR_write 18 = .ok (.invokevirtual 63, 3) := by decide +kernel
theorem dd_WR_write_21 : decode cd_WR_write 21 = .ok (.invokevirtual 66, 3) := by decide +kernel
theorem dd_WR_write_24 : decode cd_WR_write 24 = .ok (.aload_n 0, 1) := by decide +kernel
theorem dd_WR_write_25 : decode cd_WR_write 25 = .ok (.sipush 900, 3) := by decide +kernel
theorem dd_WR_write_28 : decode cd_WR_write 28 = .ok (.putfield 47, 3) := by decide +kernel
theorem dd_WR_write_31 : decode cd_WR_write 31 = .ok (.aload_n 0, 1) := by decide +kernel
theorem dd_WR_write_32 : decode cd_WR_write 32 = .ok (.getfield 27, 3) := by decide +kernel
theorem dd_WR_write_35 : decode cd_WR_write 35 = .ok (.invokevirtual 70, 3) := by decide +kernel
theorem dd_WR_write_38 : decode cd_WR_write 38 = .ok (.aload_n 0, 1) := by decide +kernel
theorem dd_WR_write_39 : decode cd_WR_write 39 = .ok (.getfield 18, 3) := by decide +kernel
theorem dd_WR_write_42 : decode cd_WR_write 42 = .ok (.invokevirtual 73, 3) := by decide +kernel
theorem dd_WR_write_45 : decode cd_WR_write 45 = .ok (.iconst 0, 1) := by decide +kernel
theorem dd_WR_write_46 : decode cd_WR_write 46 = .ok (.istore_n 1, 1) := by decide +kernel
theorem dd_WR_write_47 : decode cd_WR_write 47 = .ok (.iconst 0, 1) := by decide +kernel
theorem dd_WR_write_48 : decode cd_WR_write 48 = .ok (.istore_n 2, 1) := by decide +kernel
theorem dd_WR_write_49 : decode cd_WR_write 49 = .ok (.iload_n 2, 1) := by decide +kernel
theorem dd_WR_write_50 : decode cd_WR_write 50 = .ok (.aload_n 0, 1) := by decide +kernel
theorem dd_WR_write_51 : decode cd_WR_write 51 = .ok (.getfield 9, 3) := by decide +kernel
theorem dd_WR_write_54 : decode cd_WR_write 54 = .ok (.invokevirtual 63, 3) := by decide +kernel
theorem dd_WR_write_57 : decode cd_WR_write 57 = .ok (.if_icmp .ge 26, 3) := by decide +kernel
theorem dd_WR_write_83 : decode cd_WR_write 83 = .ok (.return_, 1) := by decide +kernel
theorem dd_SY_init_0 : decode cd_SY_init 0 = .ok (.aload_n 0, 1) := by decide +kernel
theorem dd_SY_init_1 : decode cd_SY_init 1 = .ok (.invokespecial 3, 3) := by decide +kernel
theorem dd_SY_init_4 : decode cd_SY_init 4 = .ok (.aload_n 0, 1) := by decide +kernel
theorem dd_SY_init_5 : decode cd_SY_init 5 = .ok (.sipush 1108, 3) := by decide +kernel
theorem dd_SY_init_8 : decode cd_SY_init 8 = .ok (.newarray .int, 2) := by decide +kernel
theorem dd_SY_init_10 : decode cd_SY_init 10 = .ok (.putfield 9, 3) := by decide +kernel
theorem dd_SY_init_13 : decode cd_SY_init 13 = .ok (.aload_n 0, 1) := by decide +kernel
theorem dd_SY_init_14 : decode cd_SY_init 14 = .ok (.iconst 0, 1) := by decide +kernel
theorem dd_SY_init_15 : decode cd_SY_init 15 = .ok (.putfield 15, 3) := by decide +kernel
theorem dd_SY_init_18 : decode cd_SY_init 18 = .ok (.aload_n 0, 1) := by decide +kernel
theorem dd_SY_init_19 : decode cd_SY_init 19 = .ok (.iconst 0, 1) := by decide +kernel
theorem dd_SY_init_20 : decode cd_SY_init 20 = .ok (.putfield 19, 3) := by decide +kernel
theorem dd_SY_init_23 : decode cd_SY_init 23 = .ok (.return_, 1) := by decide +kernel
theorem dd_SY_isThere_0 : decode cd_SY_isThere 0 = .ok (.aload_n 0, 1) := by decide +kernel
theorem dd_SY_isThere_1 : decode cd_SY_isThere 1 = .ok (.getfield 15, 3) := by decide +kernel
theorem dd_SY_isThere_4 : decode cd_SY_isThere 4 = .ok (.ifCond .le 7, 3) := by decide +kernel
theorem dd_SY_isThere_11 : decode cd_SY_isThere 11 = .ok (.iconst 0, 1) := by decide +kernel
theorem dd_SY_isThere_12 : decode cd_SY_isThere 12 = .ok (.ireturn, 1) := by decide +kernel
theorem dd_SY_rows_0 : decode cd_SY_rows 0 = .ok (.aload_n 0, 1) := by decide +kernel
theorem dd_SY_rows_1 : decode cd_SY_rows 1 = .ok (.getfield 15, 3) := by decide +kernel
theorem dd_SY_rows_4 : decode cd_SY_rows 4 = .ok (.ireturn, 1) := by decide +kernel
theorem dd_SY_columns_0 : decode cd_SY_columns 0 = .ok (.aload_n 0, 1) := by decide +kernel
theorem dd_SY_columns_1 : decode cd_SY_columns 1 = .ok (.getfield 19, 3) := by decide +kernel
theorem dd_SY_columns_4 : decode cd_SY_columns 4 = .ok (.ireturn, 1) := by decide +kernel
theorem dd_SY_leftKind_0 : decode cd_SY_leftKind 0 = .ok (.iload_n 0, 1) := by decide +kernel
theorem dd_SY_leftKind_1 : decode cd_SY_leftKind 1 = .ok (.iconst 3, 1) := by decide +kernel
theorem dd_SY_leftKind_2 : decode cd_SY_leftKind 2 = .ok (.irem, 1) := by decide +kernel
theorem dd_SY_leftKind_3 : decode cd_SY_leftKind 3 = .ok (.ireturn, 1) := by decide +kernel
theorem dd_SY_rightKind_0 : decode cd_SY_rightKind 0 = .ok (.iload_n 0, 1) := by decide +kernel
theorem dd_SY_rightKind_1 : decode cd_SY_rightKind 1 = .ok (.iconst 2, 1) := by decide +kernel
theorem dd_SY_rightKind_2 : decode cd_SY_rightKind 2 = .ok (.iadd, 1) := by decide +kernel
theorem dd_SY_rightKind_3 : decode cd_SY_rightKind 3 = .ok (.iconst 3, 1) := by decide +kernel
theorem dd_SY_rightKind_4 : decode cd_SY_rightKind 4 = .ok (.irem, 1) := by decide +kernel
theorem dd_SY_rightKind_5 : decode cd_SY_rightKind 5 = .ok (.ireturn, 1) := by decide +kernel
theorem dd_SY_indicated_0 : decode cd_SY_indicated 0 = .ok (.iload_n 1, 1) := by decide +kernel
theorem dd_SY_indicated_1 : decode cd_SY_indicated 1 = .ok (.ifCond .ne 12, 3) := by decide +kernel
theorem dd_SY_indicated_4 : decode cd_SY_indicated 4 = .ok (.aload_n 0, 1) := by decide +kernel
theorem dd_SY_indicated_5 : decode cd_SY_indicated 5 = .ok (.getfield 15, 3) := by decide +kernel
theorem dd_SY_indicated_8 : decode cd_SY_indicated 8 = .ok (.iconst 1, 1) := by decide +kernel
theorem dd_SY_indicated_9 : decode cd_SY_indicated 9 = .ok (.isub, 1) := by decide +kernel
theorem dd_SY_indicated_10 : decode cd_SY_indicated 10 = .ok (.iconst 3, 1) := by decide +kernel
theorem dd_SY_indicated_11 : decode cd_SY_indicated 11 = .ok (.idiv, 1) := by decide +kernel
theorem dd_SY_indicated_12 : decode cd_SY_indicated 12 = .ok (.ireturn, 1) := by decide +kernel
theorem dd_SY_indicated_13 : decode cd_SY_indicated 13 = .ok (.iload_n 1, 1) := by decide +kernel
theorem dd_SY_indicated_14 : decode cd_SY_indicated 14 = .ok (.iconst 1, 1) := by decide +kernel
theorem dd_SY_indicated_15 : decode cd_SY_indicated 15 = .ok (.if_icmp .ne 18, 3) := by decide +kernel
theorem dd_SY_indicated_18 : decode cd_SY_indicated 18 = .ok (.iconst 3, 1) := by decide +kernel
theorem dd_SY_indicated_19 : decode cd_SY_indicated 19 = .ok (.iload_n 2, 1) := by decide +kernel
theorem dd_SY_indicated_20 : decode cd_SY_indicated 20 = .ok (.imul, 1) := by decide +kernel
theorem dd_SY_indicated_21 : decode cd_SY_indicated 21 = .ok (.aload_n 0, 1) := by decide +kernel
theorem dd_SY_indicated_22 : decode cd_SY_indicated 22 = .ok (.getfield 15, 3) := by decide +kernel
theorem dd_SY_indicated_25 : decode cd_SY_indicated 25 = .ok (.iconst 1, 1) := by decide +kernel
theorem dd_SY_indicated_26 : decode cd_SY_indicated 26 = .ok (.isub, 1) := by decide +kernel
theorem dd_SY_indicated_27 : decode cd_SY_indicated 27 = .ok (.iconst 3, 1) := by decide +kernel
theorem dd_SY_indicated_28 : decode cd_SY_indicated 28 = .ok (.irem, 1) := by decide +kernel
theorem dd_SY_indicated_29 : decode cd_SY_indicated 29 = .ok (.iadd, 1) := by decide +kernel
theorem dd_SY_indicated_30 : decode cd_SY_indicated 30 = .ok (.goto 9, 3) := by decide +kernel
theorem dd_SY_indicated_33 : decode cd_SY_indicated 33 = .ok (.aload_n 0, 1) := by decide +kernel
theorem dd_SY_indicated_34 : decode cd_SY_indicated 34 = .ok (.getfield 19, 3) := by decide +kernel
theorem dd_SY_indicated_37 : decode cd_SY_indicated 37 = .ok (.iconst 1, 1) := by decide +kernel
theorem dd_SY_indicated_38 : decode cd_SY_indicated 38 = .ok (.isub, 1) := by decide +kernel
theorem dd_SY_indicated_39 : decode cd_SY_indicated 39 = .ok (.ireturn, 1) := by decide +kernel
theorem dd_SY_has_0 : decode cd_SY_has 0 = .ok (.iload_n 1, 1) := by decide +kernel
theorem dd_SY_has_1 : decode cd_SY_has 1 = .ok (.ifCond .lt 29, 3) := by decide +kernel
theorem dd_SY_has_4 : decode cd_SY_has 4 = .ok (.iload_n 1, 1) := by decide +kernel
theorem dd_SY_has_5 : decode cd_SY_has 5 = .ok (.aload_n 0, 1) := by decide +kernel
theorem dd_SY_has_6 : decode cd_SY_has 6 = .ok (.getfield 15, 3) := by decide +kernel
theorem dd_SY_has_9 : decode cd_SY_has 9 = .ok (.if_icmp .ge 21, 3) := by decide +kernel
theorem dd_SY_has_12 : decode cd_SY_has 12 = .ok (.iload_n 2, 1) := by decide +kernel
theorem dd_SY_has_13 : decode cd_SY_has 13 = .ok (.ifCond .lt 17, 3) := by decide +kernel
theorem dd_SY_has_16 : decode cd_SY_has 16 = .ok (.iload_n 2, 1) := by decide +kernel
theorem dd_SY_has_17 : decode cd_SY_has 17 = .ok (.aload_n 0, 1) := by decide +kernel
theorem dd_SY_has_18 : decode cd_SY_has 18 = .ok (.getfield 19, 3) := by decide +kernel
theorem dd_SY_has_21 : decode cd_SY_has 21 = .ok (.iconst 1, 1) := by decide +kernel
theorem dd_SY_has_22 : decode cd_SY_has 22 = .ok (.iadd, 1) := by decide +kernel
theorem dd_SY_has_23 : decode cd_SY_has 23 = .ok (.if_icmp .gt 7, 3) := by decide +kernel
theorem dd_SY_has_26 : decode cd_SY_has 26 = .ok (.iconst 1, 1) := by decide +kernel
theorem dd_SY_has_27 : decode cd_SY_has 27 = .ok (.goto 4, 3) := by decide +kernel
theorem dd_SY_has_31 : decode cd_SY_has 31 = .ok (.ireturn, 1) := by decide +kernel
theorem dd_SY_set_0 : decode cd_SY_set 0 = .ok (.aload_n 0, 1) := by decide +kernel
theorem dd_SY_set_1 : decode cd_SY_set 1 = .ok (.iload_n 1, 1) := by decide +kernel
theorem dd_SY_set_2 : decode cd_SY_set 2 = .ok (.iload_n 2, 1) := by decide +kernel
theorem dd_SY_set_3 : decode cd_SY_set 3 = .ok (.invokevirtual 28, 3) := by decide +kernel
theorem dd_SY_set_6 : decode cd_SY_set 6 = .ok (.ifCond .eq 19, 3) := by decide +kernel
theorem dd_SY_set_9 : decode cd_SY_set 9 = .ok (.aload_n 0, 1) := by decide +kernel
theorem dd_SY_set_10 : decode cd_SY_set 10 = .ok (.getfield 9, 3) := by decide +kernel
theorem dd_SY_set_13 : decode cd_SY_set 13 = .ok (.iload_n 1, 1) := by decide +kernel
theorem dd_SY_set_14 : decode cd_SY_set 14 = .ok (.aload_n 0, 1) := by decide +kernel
theorem dd_SY_set_15 : decode cd_SY_set 15 = .ok (.getfield 19, 3) := by decide +kernel
theorem dd_SY_set_18 : decode cd_SY_set 18 = .ok (.iconst 2, 1) := by decide +kernel
theorem dd_SY_set_19 : decode cd_SY_set 19 = .ok (.iadd, 1) := by decide +kernel
theorem dd_SY_set_20 : decode cd_SY_set 20 = .ok (.imul, 1) := by decide +kernel
theorem dd_SY_set_21 : decode cd_SY_set 21 = .ok (.iload_n 2, 1) := by decide +kernel
theorem dd_SY_set_22 : decode cd_SY_set 22 = .ok (.iadd, 1) := by decide +kernel
theorem dd_SY_set_23 : decode cd_SY_set 23 = .ok (.iload_n 3, 1) := by decide +kernel
theorem dd_SY_set_24 : decode cd_SY_set 24 = .ok (.iastore, 1) := by decide +kernel
theorem dd_SY_set_25 : decode cd_SY_set 25 = .ok (.return_, 1) := by decide +kernel
theorem dd_AR_fill_0 : decode cd_AR_fill 0 = .ok (.iconst 0, 1) := by decide +kernel
theorem dd_AR_fill_1 : decode cd_AR_fill 1 = .ok (.istore_n 2, 1) := by decide +kernel
theorem dd_AR_fill_2 : decode cd_AR_fill 2 = .ok (.aload_n 0, 1) := by decide +kernel
theorem dd_AR_fill_3 : decode cd_AR_fill 3 = .ok (.arraylength, 1) := by decide +kernel
theorem dd_AR_fill_4 : decode cd_AR_fill 4 = .ok (.istore_n 3, 1) := by decide +kernel
theorem dd_AR_fill_5 : decode cd_AR_fill 5 = .ok (.iload_n 2, 1) := by decide +kernel
theorem dd_AR_fill_6 : decode cd_AR_fill 6 = .ok (.iload_n 3, 1) := by decide +kernel
theorem dd_AR_fill_7 : decode cd_AR_fill 7 = .ok (.if_icmp .ge 13, 3) := by decide +kernel
theorem dd_AR_fill_10 : decode cd_AR_fill 10 = .ok (.aload_n 0, 1) := by decide +kernel
theorem dd_AR_fill_11 : decode cd_AR_fill 11 = .ok (.iload_n 2, 1) := by decide +kernel
theorem dd_AR_fill_12 : decode cd_AR_fill 12 = .ok (.iload_n 1, 1) := by decide +kernel
theorem dd_AR_fill_13 : decode cd_AR_fill 13 = .ok (.iastore, 1) := by decide +kernel
theorem dd_AR_fill_14 : decode cd_AR_fill 14 = .ok (.iinc 2 1, 3) := by decide +kernel
theorem dd_AR_fill_17 : decode cd_AR_fill 17 = .ok (.goto (-12), 3) := by decide +kernel
theorem dd_AR_fill_20 : decode cd_AR_fill 20 = .ok (.return_, 1) := by decide +kernel
theorem dd_SY_begin_0 : decode cd_SY_begin 0 = .ok (.aload_n 0, 1) := by decide +kernel
theorem dd_SY_begin_1 : decode cd_SY_begin 1 = .ok (.iload_n 1, 1) := by decide +kernel
theorem dd_SY_begin_2 : decode cd_SY_begin 2 = .ok (.putfield 15, 3) := by decide +kernel
theorem dd_SY_begin_5 : decode cd_SY_begin 5 = .ok (.aload_n 0, 1) := by decide +kernel
theorem dd_SY_begin_6 : decode cd_SY_begin 6 = .ok (.iload_n 2, 1) := by decide +kernel
theorem dd_SY_begin_7 : decode cd_SY_begin 7 = .ok (.putfield 19, 3) := by decide +kernel
theorem dd_SY_begin_10 : decode cd_SY_begin 10 = .ok (.aload_n 0, 1) := by decide +kernel
theorem dd_SY_begin_11 : decode cd_SY_begin 11 = .ok (.getfield 9, 3) := by decide +kernel
theorem dd_SY_begin_14 : decode cd_SY_begin 14 = .ok (.iconst (-1), 1) := by decide +kernel
theorem dd_SY_begin_15 : decode cd_SY_begin 15 = .ok (.invokestatic 22, 3) := by decide +kernel
theorem dd_SY_begin_18 : decode cd_SY_begin 18 = .ok (.return_, 1) := by decide +kernel
theorem dd_SY_fill_0 : decode cd_SY_fill 0 = .ok (.iconst 0, 1) := by decide +kernel
theorem dd_SY_fill_1 : decode cd_SY_fill 1 = .ok (.istore_n 3, 1) := by decide +kernel
theorem dd_SY_fill_2 : decode cd_SY_fill 2 = .ok (.iload_n 3, 1) := by decide +kernel
theorem dd_SY_fill_3 : decode cd_SY_fill 3 = .ok (.aload_n 0, 1) := by decide +kernel
theorem dd_SY_fill_4 : decode cd_SY_fill 4 = .ok (.getfield 15, 3) := by decide +kernel
theorem dd_SY_fill_7 : decode cd_SY_fill 7 = .ok (.if_icmp .ge 96, 3) := by decide +kernel
theorem dd_SY_fill_10 : decode cd_SY_fill 10 = .ok (.aload_n 0, 1) := by decide +kernel
theorem dd_SY_fill_11 : decode cd_SY_fill 11 = .ok (.iload_n 3, 1) := by decide +kernel
theorem dd_SY_fill_12 : decode cd_SY_fill 12 = .ok (.iconst 0, 1) := by decide +kernel
theorem dd_SY_fill_13 : decode cd_SY_fill 13 = .ok (.bipush 30, 2) := by decide +kernel
theorem dd_SY_fill_15 : decode cd_SY_fill 15 = .ok (.iload_n 3, 1) := by decide +kernel
theorem dd_SY_fill_16 : decode cd_SY_fill 16 = .ok (.iconst 3, 1) := by decide +kernel
theorem dd_SY_fill_17 : decode cd_SY_fill 17 = .ok (.idiv, 1) := by decide +kernel
theorem dd_SY_fill_18 : decode cd_SY_fill 18 = .ok (.imul, 1) := by decide +kernel
theorem dd_SY_fill_19 : decode cd_SY_fill 19 = .ok (.aload_n 0, 1) := by decide +kernel
theorem dd_SY_fill_20 : decode cd_SY_fill 20 = .ok (.iload_n 3, 1) := by decide +kernel
theorem dd_SY_fill_21 : decode cd_SY_fill 21 = .ok (.invokestatic 32, 3) := by decide +kernel
theorem dd_SY_fill_24 : decode cd_SY_fill 24 = .ok (.iload_n 2, 1) := by decide +kernel
theorem dd_SY_fill_25 : decode cd_SY_fill 25 = .ok (.invokevirtual 36, 3) := by decide +kernel
theorem dd_SY_fill_28 : decode cd_SY_fill 28 = .ok (.iadd, 1) := by decide +kernel
theorem dd_SY_fill_29 : decode cd_SY_fill 29 = .ok (.invokevirtual 40, 3) := by decide +kernel
theorem dd_SY_fill_32 : decode cd_SY_fill 32 = .ok (.aload_n 0, 1) := by decide +kernel
theorem dd_SY_fill_33 : decode cd_SY_fill 33 = .ok (.iload_n 3, 1) := by decide +kernel
theorem dd_SY_fill_34 : decode cd_SY_fill 34 = .ok (.aload_n 0, 1) := by decide +kernel
theorem dd_SY_fill_35 : decode cd_SY_fill 35 = .ok (.getfield 19, 3) := by decide +kernel
theorem dd_SY_fill_38 : decode cd_SY_fill 38 = .ok (.iconst 1, 1) := by decide +kernel
theorem dd_SY_fill_39 : decode cd_SY_fill 39 = .ok (.iadd, 1) := by decide +kernel
theorem dd_SY_fill_40 : decode cd_SY_fill 40 = .ok (.bipush 30, 2) := by decide +kernel
theorem dd_SY_fill_42 : decode cd_SY_fill 42 = .ok (.iload_n 3, 1) := by decide +kernel
theorem dd_SY_fill_43 : decode cd_SY_fill 43 = .ok (.iconst 3, 1) := by decide +kernel
theorem dd_SY_fill_44 : decode cd_SY_fill 44 = .ok (.idiv, 1) := by decide +kernel
theorem dd_SY_fill_45 : decode cd_SY_fill 45 = .ok (.imul, 1) := by decide +kernel
theorem dd_SY_fill_46 : decode cd_SY_fill 46 = .ok (.aload_n 0, 1) := by decide +kernel
theorem dd_SY_fill_47 : decode cd_SY_fill 47 = .ok (.iload_n 3, 1) := by decide +kernel
theorem dd_SY_fill_48 : decode cd_SY_fill 48 = .ok (.invokestatic 44, 3) := by decide +kernel
theorem dd_SY_fill_51 : decode cd_SY_fill 51 = .ok (.iload_n 2, 1) := by decide +kernel
theorem dd_SY_fill_52 : decode cd_SY_fill 52 = .ok (.invokevirtual 36, 3) := by decide +kernel
theorem dd_SY_fill_55 : decode cd_SY_fill 55 = .ok (.iadd, 1) := by decide +kernel
theorem dd_SY_fill_56 : decode cd_SY_fill 56 = .ok (.invokevirtual 40, 3) := by decide +kernel
theorem dd_SY_fill_59 : decode cd_SY_fill 59 = .ok (.iconst 1, 1) := by decide +kernel
theorem dd_SY_fill_60 : decode cd_SY_fill 60 = .ok (.istore 4, 2) := by decide +kernel
theorem dd_SY_fill_62 : decode cd_SY_fill 62 = .ok (.iload 4, 2) := by decide +kernel
theorem dd_SY_fill_64 : decode cd_SY_fill 64 = .ok (.aload_n 0, 1) := by decide +kernel
theorem dd_SY_fill_65 : decode cd_SY_fill 65 = .ok (.getfield 19, 3) := by decide +kernel
theorem dd_SY_fill_68 : decode cd_SY_fill 68 = .ok (.if_icmp .gt 29, 3) := by decide +kernel
theorem dd_SY_fill_71 : decode cd_SY_fill 71 = .ok (.aload_n 0, 1) := by decide +kernel
theorem dd_SY_fill_72 : decode cd_SY_fill 72 = .ok (.iload_n 3, 1) := by decide +kernel
theorem dd_SY_fill_73 : decode cd_SY_fill 73 = .ok (.iload 4, 2) := by decide +kernel
theorem dd_SY_fill_75 : decode cd_SY_fill 75 = .ok (.aload_n 1, 1) := by decide +kernel
theorem dd_SY_fill_76 : decode cd_SY_fill 76 = .ok (.iload_n 3, 1) := by decide +kernel
theorem dd_SY_fill_77 : decode cd_SY_fill 77 = .ok (.aload_n 0, 1) := by decide +kernel
theorem dd_SY_fill_78 : decode cd_SY_fill 78 = .ok (.getfield 19, 3) := by decide +kernel
theorem dd_SY_fill_81 : decode cd_SY_fill 81 = .ok (.imul, 1) := by decide +kernel
theorem dd_SY_fill_82 : decode cd_SY_fill 82 = .ok (.iload 4, 2) := by decide +kernel
theorem dd_SY_fill_84 : decode cd_SY_fill 84 = .ok (.iadd, 1) := by decide +kernel
theorem dd_SY_fill_85 : decode cd_SY_fill 85 = .ok (.iconst 1, 1) := by decide +kernel
theorem dd_SY_fill_86 : decode cd_SY_fill 86 = .ok (.isub, 1) := by decide +kernel
theorem dd_SY_fill_87 : decode cd_SY_fill 87 = .ok (.iaload, 1) := by decide +kernel
theorem dd_SY_fill_88 : decode cd_SY_fill 88 = .ok (.invokevirtual 40, 3) := by decide +kernel
theorem dd_SY_fill_91 : decode cd_SY_fill 91 = .ok (.iinc 4 1, 3) := by decide +kernel
theorem dd_SY_fill_94 : decode cd_SY_fill 94 = .ok (.goto (-32), 3) := by decide +kernel
theorem dd_SY_fill_97 : decode cd_SY_fill 97 = .ok (.iinc 3 1, 3) := by decide +kernel
theorem dd_SY_fill_100 : decode cd_SY_fill 100 = .ok (.goto (-98), 3) := by decide +kernel
theorem dd_SY_fill_103 : decode cd_SY_fill 103 = .ok (.return_, 1) := by decide +kernel
theorem dd_SR_negative_0 : decode cd_SR_negative 0 = .ok (.sipush 929, 3) := by decide +kernel
theorem dd_SR_negative_3 : decode cd_SR_negative 3 = .ok (.iload_n 0, 1) := by decide +kernel
theorem dd_SR_negative_4 : decode cd_SR_negative 4 = .ok (.isub, 1) := by decide +kernel
theorem dd_SR_negative_5 : decode cd_SR_negative 5 = .ok (.sipush 929, 3) := by decide +kernel
theorem dd_SR_negative_8 : decode cd_SR_negative 8 = .ok (.irem, 1) := by decide +kernel
theorem dd_SR_negative_9 : decode cd_SR_negative 9 = .ok (.ireturn, 1) := by decide +kernel
theorem dd_SR_checksOf_0 : decode cd_SR_checksOf 0 = .ok (.iconst 2, 1) := by decide +kernel
theorem dd_SR_checksOf_1 : decode cd_SR_checksOf 1 = .ok (.iload_n 0, 1) := by decide +kernel
theorem dd_SR_checksOf_2 : decode cd_SR_checksOf 2 = .ok (.ishl, 1) := by decide +kernel
theorem dd_SR_checksOf_3 : decode cd_SR_checksOf 3 = .ok (.ireturn, 1) := by decide +kernel
theorem dd_SR_rowsFor_0 : decode cd_SR_rowsFor 0 = .ok (.iconst 3, 1) := by decide +kernel
theorem dd_SR_rowsFor_1 : decode cd_SR_rowsFor 1 = .ok (.istore_n 2, 1) := by decide +kernel
theorem dd_SR_rowsFor_2 : decode cd_SR_rowsFor 2 = .ok (.iload_n 2, 1) := by decide +kernel
theorem dd_SR_rowsFor_3 : decode cd_SR_rowsFor 3 = .ok (.bipush 90, 2) := by decide +kernel
theorem dd_SR_rowsFor_5 : decode cd_SR_rowsFor 5 = .ok (.if_icmp .gt 16, 3) := by decide +kernel
theorem dd_SR_rowsFor_8 : decode cd_SR_rowsFor 8 = .ok (.iload_n 2, 1) := by decide +kernel
theorem dd_SR_rowsFor_9 : decode cd_SR_rowsFor 9 = .ok (.iload_n 1, 1) := by decide +kernel
theorem dd_SR_rowsFor_10 : decode cd_SR_rowsFor 10 = .ok (.imul, 1) := by decide +kernel
theorem dd_SR_rowsFor_11 : decode cd_SR_rowsFor 11 = .ok (.iload_n 0, 1) := by decide +kernel
theorem dd_SR_rowsFor_12 : decode cd_SR_rowsFor 12 = .ok (.if_icmp .ge 9, 3) := by decide +kernel
theorem dd_SR_rowsFor_15 : decode cd_SR_rowsFor 15 = .ok (.iinc 2 1, 3) := by decide +kernel
theorem dd_SR_rowsFor_18 : decode cd_SR_rowsFor 18 = .ok (.goto (-16), 3) := by decide +kernel
theorem dd_SR_rowsFor_21 : decode cd_SR_rowsFor 21 = .ok (.iload_n 2, 1) := by decide +kernel
theorem dd_SR_rowsFor_22 : decode cd_SR_rowsFor 22 = .ok (.ireturn, 1) := by decide +kernel
theorem dd_CK_init_0 : decode cd_CK_init 0 = .ok (.aload_n 0, 1) := by decide +kernel
theorem dd_CK_init_1 : decode cd_CK_init 1 = .ok (.invokespecial 3, 3) := by decide +kernel
theorem dd_CK_init_4 : decode cd_CK_init 4 = .ok (.aload_n 0, 1) := by decide +kernel
theorem dd_CK_init_5 : decode cd_CK_init 5 = .ok (.sipush 513, 3) := by decide +kernel
theorem dd_CK_init_8 : decode cd_CK_init 8 = .ok (.newarray .int, 2) := by decide +kernel
theorem dd_CK_init_10 : decode cd_CK_init 10 = .ok (.putfield 9, 3) := by decide +kernel
theorem dd_CK_init_13 : decode cd_CK_init 13 = .ok (.return_, 1) := by decide +kernel
theorem dd_CK_multiplyFactors_0 : decode cd_CK_multiplyFactors 0 = .ok (.aload_n 0, 1) := by decide +kernel
theorem dd_CK_multiplyFactors_1 : decode cd_CK_multiplyFactors 1 = .ok (.getfield 9, 3) := by decide +kernel
theorem dd_CK_multiplyFactors_4 : decode cd_CK_multiplyFactors 4 = .ok (.iconst 0, 1) := by decide +kernel
theorem dd_CK_multiplyFactors_5 : decode cd_CK_multiplyFactors 5 = .ok (.iconst 1, 1) := by decide +kernel
theorem dd_CK_multiplyFactors_6 : decode cd_CK_multiplyFactors 6 = .ok (.iastore, 1) := by decide +kernel
theorem dd_CK_multiplyFactors_7 : decode cd_CK_multiplyFactors 7 = .ok (.iconst 1, 1) := by decide +kernel
theorem dd_CK_multiplyFactors_8 : decode cd_CK_multiplyFactors 8 = .ok (.istore_n 2, 1) := by decide +kernel
theorem dd_CK_multiplyFactors_9 : decode cd_CK_multiplyFactors 9 = .ok (.iconst 1, 1) := by decide +kernel
theorem dd_CK_multiplyFactors_10 : decode cd_CK_multiplyFactors 10 = .ok (.istore_n 3, 1) := by decide +kernel
theorem dd_CK_multiplyFactors_11 : decode cd_CK_multiplyFactors 11 = .ok (.iload_n 3, 1) := by decide +kernel
theorem dd_CK_multiplyFactors_12 : decode cd_CK_multiplyFactors 12 = .ok (.iload_n 1, 1) := by decide +kernel
theorem dd_CK_multiplyFactors_13 : decode cd_CK_multiplyFactors 13 = .ok (.if_icmp .gt 96, 3) := by decide +kernel
theorem dd_CK_multiplyFactors_16 : decode cd_CK_multiplyFactors 16 = .ok (.iload_n 2, 1) := by decide +kernel
theorem dd_CK_multiplyFactors_17 : decode cd_CK_multiplyFactors 17 = .ok (.iconst 3, 1) := by decide +kernel
theorem dd_CK_multiplyFactors_18 : decode cd_CK_multiplyFactors 18 = .ok (.imul, 1) := by decide +kernel
theorem dd_CK_multiplyFactors_19 : decode cd_CK_multiplyFactors 19 = .ok (.sipush 929, 3) := by decide +kernel
theorem dd_CK_multiplyFactors_22 : decode cd_CK_multiplyFactors 22 = .ok (.irem, 1) := by decide +kernel
theorem dd_CK_multiplyFactors_23 : decode cd_CK_multiplyFactors 23 = .ok (.istore_n 2, 1) := by decide +kernel
theorem dd_CK_multiplyFactors_24 : decode cd_CK_multiplyFactors 24 = .ok (.iload_n 2, 1) := by decide +kernel
theorem dd_CK_multiplyFactors_25 : decode cd_CK_multiplyFactors 25 = .ok (.invokestatic 23, 3) := by decide +kernel
theorem dd_CK_multiplyFactors_28 : decode cd_CK_multiplyFactors 28 = .ok (.istore 4, 2) := by decide +kernel
theorem dd_CK_multiplyFactors_30 : decode cd_CK_multiplyFactors 30 = .ok (.aload_n 0, 1) := by decide +kernel
theorem dd_CK_multiplyFactors_31 : decode cd_CK_multiplyFactors 31 = .ok (.getfield 9, 3) := by decide +kernel
theorem dd_CK_multiplyFactors_34 : decode cd_CK_multiplyFactors 34 = .ok (.iload_n 3, 1) := by decide +kernel
theorem dd_CK_multiplyFactors_35 : decode cd_CK_multiplyFactors 35 = .ok (.iconst 1, 1) := by decide +kernel
theorem dd_CK_multiplyFactors_36 : decode cd_CK_multiplyFactors 36 = .ok (.iastore, 1) := by decide +kernel
theorem dd_CK_multiplyFactors_37 : decode cd_CK_multiplyFactors 37 = .ok (.iload_n 3, 1) := by decide +kernel
theorem dd_CK_multiplyFactors_38 : decode cd_CK_multiplyFactors 38 = .ok (.iconst 1, 1) := by decide +kernel
theorem dd_CK_multiplyFactors_39 : decode cd_CK_multiplyFactors 39 = .ok (.isub, 1) := by decide +kernel
theorem dd_CK_multiplyFactors_40 : decode cd_CK_multiplyFactors 40 = .ok (.istore 5, 2) := by decide +kernel
theorem dd_CK_multiplyFactors_42 : decode cd_CK_multiplyFactors 42 = .ok (.iload 5, 2) := by decide +kernel
theorem dd_CK_multiplyFactors_44 : decode cd_CK_multiplyFactors 44 = .ok (.ifCond .le 40, 3) := by decide +kernel
theorem dd_CK_multiplyFactors_47 : decode cd_CK_multiplyFactors 47 = .ok (.aload_n 0, 1) := by decide +kernel
theorem dd_CK_multiplyFactors_48 : decode cd_CK_multiplyFactors 48 = .ok (.getfield 9, 3) := by decide +kernel
theorem dd_CK_multiplyFactors_51 : decode cd_CK_multiplyFactors 51 = .ok (.iload 5, 2) := by decide +kernel
theorem dd_CK_multiplyFactors_53 : decode cd_CK_multiplyFactors 53 = .ok (.aload_n 0, 1) := by decide +kernel
theorem dd_CK_multiplyFactors_54 : decode cd_CK_multiplyFactors 54 = .ok (.getfield 9, 3) := by decide +kernel
theorem dd_CK_multiplyFactors_57 : decode cd_CK_multiplyFactors 57 = .ok (.iload 5, 2) := by decide +kernel
theorem dd_CK_multiplyFactors_59 : decode cd_CK_multiplyFactors 59 = .ok (.iconst 1, 1) := by decide +kernel
theorem dd_CK_multiplyFactors_60 : decode cd_CK_multiplyFactors 60 = .ok (.isub, 1) := by decide +kernel
theorem dd_CK_multiplyFactors_61 : decode cd_CK_multiplyFactors 61 = .ok (.iaload, 1) := by decide +kernel
theorem dd_CK_multiplyFactors_62 : decode cd_CK_multiplyFactors 62 = .ok (.iload 4, 2) := by decide +kernel
theorem dd_CK_multiplyFactors_64 : decode cd_CK_multiplyFactors 64 = .ok (.aload_n 0, 1) := by decide +kernel
theorem dd_CK_multiplyFactors_65 : decode cd_CK_multiplyFactors 65 = .ok (.getfield 9, 3) := by decide +kernel
theorem dd_CK_multiplyFactors_68 : decode cd_CK_multiplyFactors 68 = .ok (.iload 5, 2) := by decide +kernel
theorem dd_CK_multiplyFactors_70 : decode cd_CK_multiplyFactors 70 = .ok (.iaload, 1) := by decide +kernel
theorem dd_CK_multiplyFactors_71 : decode cd_CK_multiplyFactors 71 = .ok (.imul, 1) := by decide +kernel
theorem dd_CK_multiplyFactors_72 : decode cd_CK_multiplyFactors 72 = .ok (.iadd, 1) := by decide +kernel
theorem dd_CK_multiplyFactors_73 : decode cd_CK_multiplyFactors 73 = .ok (.sipush 929, 3) := by decide +kernel
theorem dd_CK_multiplyFactors_76 : decode cd_CK_multiplyFactors 76 = .ok (.irem, 1) := by decide +kernel
theorem dd_CK_multiplyFactors_77 : decode cd_CK_multiplyFactors 77 = .ok (.iastore, 1) := by decide +kernel
theorem dd_CK_multiplyFactors_78 : decode cd_CK_multiplyFactors 78 = .ok (.iinc 5 (-1), 3) := by decide +kernel
theorem dd_CK_multiplyFactors_81 : decode cd_CK_multiplyFactors 81 = .ok (.goto (-39), 3) := by decide +kernel
theorem dd_CK_multiplyFactors_84 : decode cd_CK_multiplyFactors 84 = .ok (.aload_n 0, 1) := by decide +kernel
theorem dd_CK_multiplyFactors_85 : decode cd_CK_multiplyFactors 85 = .ok (.getfield 9, 3) := by decide +kernel
theorem dd_CK_multiplyFactors_88 : decode cd_CK_multiplyFactors 88 = .ok (.iconst 0, 1) := by decide +kernel
theorem dd_CK_multiplyFactors_89 : decode cd_CK_multiplyFactors 89 = .ok (.iload 4, 2) := by decide +kernel
theorem dd_CK_multiplyFactors_91 : decode cd_CK_multiplyFactors 91 = .ok (.aload_n 0, 1) := by decide +kernel
theorem dd_CK_multiplyFactors_92 : decode cd_CK_multiplyFactors 92 = .ok (.getfield 9, 3) := by decide +kernel
theorem dd_CK_multiplyFactors_95 : decode cd_CK_multiplyFactors 95 = .ok (.iconst 0, 1) := by decide +kernel
theorem dd_CK_multiplyFactors_96 : decode cd_CK_multiplyFactors 96 = .ok (.iaload, 1) := by decide +kernel
theorem dd_CK_multiplyFactors_97 : decode cd_CK_multiplyFactors 97 = .ok (.imul, 1) := by decide +kernel
theorem dd_CK_multiplyFactors_98 : decode cd_CK_multiplyFactors 98 = .ok (.sipush 929, 3) := by decide +kernel
theorem dd_CK_multiplyFactors_101 : decode cd_CK_multiplyFactors 101 = .ok (.irem, 1) := by decide +kernel
theorem dd_CK_multiplyFactors_102 : decode cd_CK_multiplyFactors 102 = .ok (.iastore, 1) := by decide +kernel
theorem dd_CK_multiplyFactors_103 : decode cd_CK_multiplyFactors 103 = .ok (.iinc 3 1, 3) := by decide +kernel
theorem dd_CK_multiplyFactors_106 : decode cd_CK_multiplyFactors 106 = .ok (.goto (-95), 3) := by decide +kernel
theorem dd_CK_multiplyFactors_109 : decode cd_CK_multiplyFactors 109 = .ok (.return_, 1) := by decide +kernel
theorem dd_CK_divide_0 : decode cd_CK_divide 0 = .ok (.iload_n 2, 1) := by decide +kernel
theorem dd_CK_divide_1 : decode cd_CK_divide 1 = .ok (.iload_n 3, 1) := by decide +kernel
theorem dd_CK_divide_2 : decode cd_CK_divide 2 = .ok (.isub, 1) := by decide +kernel
theorem dd_CK_divide_3 : decode cd_CK_divide 3 = .ok (.istore 4, 2) := by decide +kernel
theorem dd_CK_divide_5 : decode cd_CK_divide 5 = .ok (.iload 4, 2) := by decide +kernel
theorem dd_CK_divide_7 : decode cd_CK_divide 7 = .ok (.iload_n 2, 1) := by decide +kernel
theorem dd_CK_divide_8 : decode cd_CK_divide 8 = .ok (.if_icmp .ge 14, 3) := by decide +kernel
theorem dd_CK_divide_11 : decode cd_CK_divide 11 = .ok (.aload_n 1, 1) := by decide +kernel
theorem dd_CK_divide_12 : decode cd_CK_divide 12 = .ok (.iload 4, 2) := by decide +kernel
theorem dd_CK_divide_14 : decode cd_CK_divide 14 = .ok (.iconst 0, 1) := by decide +kernel
theorem dd_CK_divide_15 : decode cd_CK_divide 15 = .ok (.iastore, 1) := by decide +kernel
theorem dd_CK_divide_16 : decode cd_CK_divide 16 = .ok (.iinc 4 1, 3) := by decide +kernel
theorem dd_CK_divide_19 : decode cd_CK_divide 19 = .ok (.goto (-14), 3) := by decide +kernel
theorem dd_CK_divide_22 : decode cd_CK_divide 22 = .ok (.iconst 0, 1) := by decide +kernel
theorem dd_CK_divide_23 : decode cd_CK_divide 23 = .ok (.istore 4, 2) := by decide +kernel
theorem dd_CK_divide_25 : decode cd_CK_divide 25 = .ok (.iload 4, 2) := by decide +kernel
theorem dd_CK_divide_27 : decode cd_CK_divide 27 = .ok (.iload_n 2, 1) := by decide +kernel
theorem dd_CK_divide_28 : decode cd_CK_divide 28 = .ok (.iload_n 3, 1) := by decide +kernel
theorem dd_CK_divide_29 : decode cd_CK_divide 29 = .ok (.isub, 1) := by decide +kernel
theorem dd_CK_divide_30 : decode cd_CK_divide 30 = .ok (.if_icmp .ge 91, 3) := by decide +kernel
theorem dd_CK_divide_33 : decode cd_CK_divide 33 = .ok (.aload_n 1, 1) := by decide +kernel
theorem dd_CK_divide_34 : decode cd_CK_divide 34 = .ok (.iload 4, 2) := by decide +kernel
theorem dd_CK_divide_36 : decode cd_CK_divide 36 = .ok (.iaload, 1) := by decide +kernel
theorem dd_CK_divide_37 : decode cd_CK_divide 37 = .ok (.aload_n 1, 1) := by decide +kernel
theorem dd_CK_divide_38 : decode cd_CK_divide 38 = .ok (.iload_n 2, 1) := by decide +kernel
theorem dd_CK_divide_39 : decode cd_CK_divide 39 = .ok (.iload_n 3, 1) := by decide +kernel
theorem dd_CK_divide_40 : decode cd_CK_divide 40 = .ok (.isub, 1) := by decide +kernel
theorem dd_CK_divide_41 : decode cd_CK_divide 41 = .ok (.iaload, 1) := by decide +kernel
theorem dd_CK_divide_42 : decode cd_CK_divide 42 = .ok (.iadd, 1) := by decide +kernel
theorem dd_CK_divide_43 : decode cd_CK_divide 43 = .ok (.sipush 929, 3) := by decide +kernel
theorem dd_CK_divide_46 : decode cd_CK_divide 46 = .ok (.irem, 1) := by decide +kernel
theorem dd_CK_divide_47 : decode cd_CK_divide 47 = .ok (.invokestatic 23, 3) := by decide +kernel
theorem dd_CK_divide_50 : decode cd_CK_divide 50 = .ok (.istore 5, 2) := by decide +kernel
theorem dd_CK_divide_52 : decode cd_CK_divide 52 = .ok (.iload_n 3, 1) := by decide +kernel
theorem dd_CK_divide_53 : decode cd_CK_divide 53 = .ok (.iconst 1, 1) := by decide +kernel
theorem dd_CK_divide_54 : decode cd_CK_divide 54 = .ok (.isub, 1) := by decide +kernel
theorem dd_CK_divide_55 : decode cd_CK_divide 55 = .ok (.istore 6, 2) := by decide +kernel
theorem dd_CK_divide_57 : decode cd_CK_divide 57 = .ok (.iload 6, 2) := by decide +kernel
theorem dd_CK_divide_59 : decode cd_CK_divide 59 = .ok (.ifCond .le 38, 3) := by decide +kernel
theorem dd_CK_divide_62 : decode cd_CK_divide 62 = .ok (.aload_n 1, 1) := by decide +kernel
theorem dd_CK_divide_63 : decode cd_CK_divide 63 = .ok (.iload_n 2, 1) := by decide +kernel
theorem dd_CK_divide_64 : decode cd_CK_divide 64 = .ok (.iconst 1, 1) := by decide +kernel
theorem dd_CK_divide_65 : decode cd_CK_divide 65 = .ok (.isub, 1) := by decide +kernel
theorem dd_CK_divide_66 : decode cd_CK_divide 66 = .ok (.iload 6, 2) := by decide +kernel
theorem dd_CK_divide_68 : decode cd_CK_divide 68 = .ok (.isub, 1) := by decide +kernel
theorem dd_CK_divide_69 : decode cd_CK_divide 69 = .ok (.aload_n 1, 1) := by decide +kernel
theorem dd_CK_divide_70 : decode cd_CK_divide 70 = .ok (.iload_n 2, 1) := by decide +kernel
theorem dd_CK_divide_71 : decode cd_CK_divide 71 = .ok (.iload 6, 2) := by decide +kernel
theorem dd_CK_divide_73 : decode cd_CK_divide 73 = .ok (.isub, 1) := by decide +kernel
theorem dd_CK_divide_74 : decode cd_CK_divide 74 = .ok (.iaload, 1) := by decide +kernel
theorem dd_CK_divide_75 : decode cd_CK_divide 75 = .ok (.iload 5, 2) := by decide +kernel
theorem dd_CK_divide_77 : decode cd_CK_divide 77 = .ok (.aload_n 0, 1) := by decide +kernel
theorem dd_CK_divide_78 : decode cd_CK_divide 78 = .ok (.getfield 9, 3) := by decide +kernel
theorem dd_CK_divide_81 : decode cd_CK_divide 81 = .ok (.iload 6, 2) := by decide +kernel
theorem dd_CK_divide_83 : decode cd_CK_divide 83 = .ok (.iaload, 1) := by decide +kernel
theorem dd_CK_divide_84 : decode cd_CK_divide 84 = .ok (.imul, 1) := by decide +kernel
theorem dd_CK_divide_85 : decode cd_CK_divide 85 = .ok (.iadd, 1) := by decide +kernel
theorem dd_CK_divide_86 : decode cd_CK_divide 86 = .ok (.sipush 929, 3) := by decide +kernel
theorem dd_CK_divide_89 : decode cd_CK_divide 89 = .ok (.irem, 1) := by decide +kernel
theorem dd_CK_divide_90 : decode cd_CK_divide 90 = .ok (.iastore, 1) := by decide +kernel
theorem dd_CK_divide_91 : decode cd_CK_divide 91 = .ok (.iinc 6 (-1), 3) := by decide +kernel
theorem dd_CK_divide_94 : decode cd_CK_divide 94 = .ok (.goto (-37), 3) := by decide +kernel
theorem dd_CK_divide_97 : decode cd_CK_divide 97 = .ok (.aload_n 1, 1) := by decide +kernel
theorem dd_CK_divide_98 : decode cd_CK_divide 98 = .ok (.iload_n 2, 1) := by decide +kernel
theorem dd_CK_divide_99 : decode cd_CK_divide 99 = .ok (.iconst 1, 1) := by decide +kernel
theorem dd_CK_divide_100 : decode cd_CK_divide 100 = .ok (.isub, 1) := by decide +kernel
theorem dd_CK_divide_101 : decode cd_CK_divide 101 = .ok (.iload 5, 2) := by decide +kernel
theorem dd_CK_divide_103 : decode cd_CK_divide 103 = .ok (.aload_n 0, 1) := by decide +kernel
theorem dd_CK_divide_104 : decode cd_CK_divide 104 = .ok (.getfield 9, 3) := by decide +kernel
theorem dd_CK_divide_107 : decode cd_CK_divide 107 = .ok (.iconst 0, 1) := by decide +kernel
theorem dd_CK_divide_108 : decode cd_CK_divide 108 = .ok (.iaload, 1) := by decide +kernel
theorem dd_CK_divide_109 : decode cd_CK_divide 109 = .ok (.imul, 1) := by decide +kernel
theorem dd_CK_divide_110 : decode cd_CK_divide 110 = .ok (.sipush 929, 3) := by decide +kernel
theorem dd_CK_divide_113 : decode cd_CK_divide 113 = .ok (.irem, 1) := by decide +kernel
theorem dd_CK_divide_114 : decode cd_CK_divide 114 = .ok (.iastore, 1) := by decide +kernel
theorem dd_CK_divide_115 : decode cd_CK_divide 115 = .ok (.iinc 4 1, 3) := by decide +kernel
theorem dd_CK_divide_118 : decode cd_CK_divide 118 = .ok (.goto (-93), 3) := by decide +kernel
theorem dd_CK_divide_121 : decode cd_CK_divide 121 = .ok (.return_, 1) := by decide +kernel
theorem dd_CK_write_0 : decode cd_CK_write 0 = .ok (.aload_n 0, 1) := by decide +kernel
theorem dd_CK_write_1 : decode cd_CK_write 1 = .ok (.iload_n 3, 1) := by decide +kernel
theorem dd_CK_write_2 : decode cd_CK_write 2 = .ok (.invokevirtual 15, 3) := by decide +kernel
theorem dd_CK_write_5 : decode cd_CK_write 5 = .ok (.aload_n 0, 1) := by decide +kernel
theorem dd_CK_write_6 : decode cd_CK_write 6 = .ok (.aload_n 1, 1) := by decide +kernel
theorem dd_CK_write_7 : decode cd_CK_write 7 = .ok (.iload_n 2, 1) := by decide +kernel
theorem dd_CK_write_8 : decode cd_CK_write 8 = .ok (.iload_n 3, 1) := by decide +kernel
theorem dd_CK_write_9 : decode cd_CK_write 9 = .ok (.invokevirtual 19, 3) := by decide +kernel
theorem dd_CK_write_12 : decode cd_CK_write 12 = .ok (.iload_n 2, 1) := by decide +kernel
theorem dd_CK_write_13 : decode cd_CK_write 13 = .ok (.iload_n 3, 1) := by decide +kernel
theorem dd_CK_write_14 : decode cd_CK_write 14 = .ok (.isub, 1) := by decide +kernel
theorem dd_CK_write_15 : decode cd_CK_write 15 = .ok (.istore 4, 2) := by decide +kernel
theorem dd_CK_write_17 : decode cd_CK_write 17 = .ok (.iload 4, 2) := by decide +kernel
theorem dd_CK_write_19 : decode cd_CK_write 19 = .ok (.iload_n 2, 1) := by decide +kernel
theorem dd_CK_write_20 : decode cd_CK_write 20 = .ok (.if_icmp .ge 20, 3) := by decide +kernel
theorem dd_CK_write_23 : decode cd_CK_write 23 = .ok (.aload_n 1, 1) := by decide +kernel
theorem dd_CK_write_24 : decode cd_CK_write 24 = .ok (.iload 4, 2) := by decide +kernel
theorem dd_CK_write_26 : decode cd_CK_write 26 = .ok (.aload_n 1, 1) := by decide +kernel
theorem dd_CK_write_27 : decode cd_CK_write 27 = .ok (.iload 4, 2) := by decide +kernel
theorem dd_CK_write_29 : decode cd_CK_write 29 = .ok (.iaload, 1) := by decide +kernel
theorem dd_CK_write_30 : decode cd_CK_write 30 = .ok (.invokestatic 23, 3) := by decide +kernel
theorem dd_CK_write_33 : decode cd_CK_write 33 = .ok (.iastore, 1) := by decide +kernel
theorem dd_CK_write_34 : decode cd_CK_write 34 = .ok (.iinc 4 1, 3) := by decide +kernel
theorem dd_CK_write_37 : decode cd_CK_write 37 = .ok (.goto (-20), 3) := by decide +kernel
theorem dd_CK_write_40 : decode cd_CK_write 40 = .ok (.return_, 1) := by decide +kernel
theorem dd_MD_init_0 : decode cd_MD_init 0 = .ok (.aload_n 0, 1) := by decide +kernel
theorem dd_MD_init_1 : decode cd_MD_init 1 = .ok (.invokespecial 3, 3) := by decide +kernel
theorem dd_MD_init_4 : decode cd_MD_init 4 = .ok (.aload_n 0, 1) := by decide +kernel
theorem dd_MD_init_5 : decode cd_MD_init 5 = .ok (.aload_n 1, 1) := by decide +kernel
theorem dd_MD_init_6 : decode cd_MD_init 6 = .ok (.putfield 9, 3) := by decide +kernel
theorem dd_MD_init_9 : decode cd_MD_init 9 = .ok (.aload_n 0, 1) := by decide +kernel
theorem dd_MD_init_10 : decode cd_MD_init 10 = .ok (.sipush 513, 3) := by decide +kernel
theorem dd_MD_init_13 : decode cd_MD_init 13 = .ok (.newarray .int, 2) := by decide +kernel
theorem dd_MD_init_15 : decode cd_MD_init 15 = .ok (.putfield 15, 3) := by decide +kernel
theorem dd_MD_init_18 : decode cd_MD_init 18 = .ok (.aload_n 0, 1) := by decide +kernel
theorem dd_MD_init_19 : decode cd_MD_init 19 = .ok (.sipush 513, 3) := by decide +kernel
theorem dd_MD_init_22 : decode cd_MD_init 22 = .ok (.newarray .int, 2) := by decide +kernel
theorem dd_MD_init_24 : decode cd_MD_init 24 = .ok (.putfield 18, 3) := by decide +kernel
theorem dd_MD_init_27 : decode cd_MD_init 27 = .ok (.aload_n 0, 1) := by decide +kernel
theorem dd_MD_init_28 : decode cd_MD_init 28 = .ok (.sipush 513, 3) := by decide +kernel
theorem dd_MD_init_31 : decode cd_MD_init 31 = .ok (.newarray .int, 2) := by decide +kernel
theorem dd_MD_init_33 : decode cd_MD_init 33 = .ok (.putfield 21, 3) := by decide +kernel
theorem dd_MD_init_36 : decode cd_MD_init 36 = .ok (.aload_n 0, 1) := by decide +kernel
theorem dd_MD_init_37 : decode cd_MD_init 37 = .ok (.sipush 513, 3) := by decide +kernel
theorem dd_MD_init_40 : decode cd_MD_init 40 = .ok (.newarray .int, 2) := by decide +kernel
theorem dd_MD_init_42 : decode cd_MD_init 42 = .ok (.putfield 24, 3) := by decide +kernel
theorem dd_MD_init_45 : decode cd_MD_init 45 = .ok (.aload_n 0, 1) := by decide +kernel
theorem dd_MD_init_46 : decode cd_MD_init 46 = .ok (.sipush 513, 3) := by decide +kernel
theorem dd_MD_init_49 : decode cd_MD_init 49 = .ok (.newarray .int, 2) := by decide +kernel
theorem dd_MD_init_51 : decode cd_MD_init 51 = .ok (.putfield 27, 3) := by decide +kernel
theorem dd_MD_init_54 : decode cd_MD_init 54 = .ok (.aload_n 0, 1) := by decide +kernel
theorem dd_MD_init_55 : decode cd_MD_init 55 = .ok (.iconst 0, 1) := by decide +kernel
theorem dd_MD_init_56 : decode cd_MD_init 56 = .ok (.putfield 30, 3) := by decide +kernel
theorem dd_MD_init_59 : decode cd_MD_init 59 = .ok (.aload_n 0, 1) := by decide +kernel
theorem dd_MD_init_60 : decode cd_MD_init 60 = .ok (.iconst 0, 1) := by decide +kernel
theorem dd_MD_init_61 : decode cd_MD_init 61 = .ok (.putfield 34, 3) := by decide +kernel
theorem dd_MD_init_64 : decode cd_MD_init 64 = .ok (.aload_n 0, 1) := by decide +kernel
theorem dd_MD_init_65 : decode cd_MD_init 65 = .ok (.iconst 0, 1) := by decide +kernel
theorem dd_MD_init_66 : decode cd_MD_init 66 = .ok (.putfield 37, 3) := by decide +kernel
theorem dd_MD_init_69 : decode cd_MD_init 69 = .ok (.return_, 1) := by decide +kernel
theorem dd_RD_init_0 : decode cd_RD_init 0 = .ok (.aload_n 0, 1) := by decide +kernel
theorem dd_RD_init_1 : decode cd_RD_init 1 = .ok (.invokespecial 3, 3) := by decide +kernel
theorem dd_RD_init_4 : decode cd_RD_init 4 = .ok (.aload_n 0, 1) := by decide +kernel
theorem dd_RD_init_5 : decode cd_RD_init 5 = .ok (.aload_n 1, 1) := by decide +kernel
theorem dd_RD_init_6 : decode cd_RD_init 6 = .ok (.putfield 9, 3) := by decide +kernel
theorem dd_RD_init_9 : decode cd_RD_init 9 = .ok (.aload_n 0, 1) := by decide +kernel
theorem dd_RD_init_10 : decode cd_RD_init 10 = .ok (.aload_n 2, 1) := by decide +kernel
theorem dd_RD_init_11 : decode cd_RD_init 11 = .ok (.putfield 15, 3) := by decide +kernel
theorem dd_RD_init_14 : decode cd_RD_init 14 = .ok (.aload_n 0, 1) := by decide +kernel
theorem dd_RD_init_15 : decode cd_RD_init 15 = .ok (.new 19, 3) := by decide +kernel
theorem dd_RD_init_18 : decode cd_RD_init 18 = .ok (.dup, 1) := by decide +kernel
theorem dd_RD_init_19 : decode cd_RD_init 19 = .ok (.bipush 10, 2) := by decide +kernel
theorem dd_RD_init_21 : decode cd_RD_init 21 = .ok (.bipush 45, 2) := by decide +kernel
theorem dd_RD_init_23 : decode cd_RD_init 23 = .ok (.invokespecial 21, 3) := by decide +kernel
theorem dd_RD_init_26 : decode cd_RD_init 26 = .ok (.putfield 24, 3) := by decide +kernel
theorem dd_RD_init_29 : decode cd_RD_init 29 = .ok (.aload_n 0, 1) := by decide +kernel
theorem dd_RD_init_30 : decode cd_RD_init 30 = .ok (.iconst 0, 1) := by decide +kernel
theorem dd_RD_init_31 : decode cd_RD_init 31 = .ok (.putfield 28, 3) := by decide +kernel
theorem dd_RD_init_34 : decode cd_RD_init 34 = .ok (.aload_n 0, 1) := by decide +kernel
theorem dd_RD_init_35 : decode cd_RD_init 35 = .ok (.sipush 900, 3) := by decide +kernel
theorem dd_RD_init_38 : decode cd_RD_init 38 = .ok (.putfield 32, 3) := by decide +kernel
theorem dd_RD_init_41 : decode cd_RD_init 41 = .ok (.aload_n 0, 1) := by decide +kernel
theorem dd_RD_init_42 : decode cd_RD_init 42 = .ok (.getstatic 35, 3) := by decide +kernel
theorem dd_RD_init_45 : decode cd_RD_init 45 = .ok (.putfield 41, 3) := by decide +kernel
theorem dd_RD_init_48 : decode cd_RD_init 48 = .ok (.aload_n 0, 1) := by decide +kernel
theorem dd_RD_init_49 : decode cd_RD_init 49 = .ok (.aconst_null, 1) := by decide +kernel
theorem dd_RD_init_50 : decode cd_RD_init 50 = .ok (.putfield 44, 3) := by decide +kernel
theorem dd_RD_init_53 : decode cd_RD_init 53 = .ok (.aload_n 0, 1) := by decide +kernel
theorem dd_RD_init_54 : decode cd_RD_init 54 = .ok (.iconst 0, 1) := by decide +kernel
theorem dd_RD_init_55 : decode cd_RD_init 55 = .ok (.putfield 47, 3) := by decide +kernel
theorem dd_RD_init_58 : decode cd_RD_init 58 = .ok (.return_, 1) := by decide +kernel
theorem dd_SV_init_0 : decode cd_SV_init 0 = .ok (.aload_n 0, 1) := by decide +kernel
theorem dd_SV_init_1 : decode cd_SV_init 1 = .ok (.invokespecial 3, 3) := by decide +kernel
theorem dd_SV_init_4 : decode cd_SV_init 4 = .ok (.aload_n 0, 1) := by decide +kernel
theorem dd_SV_init_5 : decode cd_SV_init 5 = .ok (.aload_n 1, 1) := by decide +kernel
theorem dd_SV_init_6 : decode cd_SV_init 6 = .ok (.putfield 9, 3) := by decide +kernel
theorem dd_SV_init_9 : decode cd_SV_init 9 = .ok (.aload_n 0, 1) := by decide +kernel
theorem dd_SV_init_10 : decode cd_SV_init 10 = .ok (.bipush 90, 2) := by decide +kernel
theorem dd_SV_init_12 : decode cd_SV_init 12 = .ok (.newarray .int, 2) := by decide +kernel
theorem dd_SV_init_14 : decode cd_SV_init 14 = .ok (.putfield 15, 3) := by decide +kernel
theorem dd_SV_init_17 : decode cd_SV_init 17 = .ok (.aload_n 0, 1) := by decide +kernel
theorem dd_SV_init_18 : decode cd_SV_init 18 = .ok (.sipush 928, 3) := by decide +kernel
theorem dd_SV_init_21 : decode cd_SV_init 21 = .ok (.newarray .int, 2) := by decide +kernel
theorem dd_SV_init_23 : decode cd_SV_init 23 = .ok (.putfield 18, 3) := by decide +kernel
theorem dd_SV_init_26 : decode cd_SV_init 26 = .ok (.aload_n 0, 1) := by decide +kernel
theorem dd_SV_init_27 : decode cd_SV_init 27 = .ok (.new 21, 3) := by decide +kernel
theorem dd_SV_init_30 : decode cd_SV_init 30 = .ok (.dup, 1) := by decide +kernel
theorem dd_SV_init_31 : decode cd_SV_init 31 = .ok (.aload_n 0, 1) := by decide +kernel
theorem dd_SV_init_32 : decode cd_SV_init 32 = .ok (.getfield 18, 3) := by decide +kernel
theorem dd_SV_init_35 : decode cd_SV_init 35 = .ok (.invokespecial 23, 3) := by decide +kernel
theorem dd_SV_init_38 : decode cd_SV_init 38 = .ok (.putfield 26, 3) := by decide +kernel
theorem dd_SV_init_41 : decode cd_SV_init 41 = .ok (.aload_n 0, 1) := by decide +kernel
theorem dd_SV_init_42 : decode cd_SV_init 42 = .ok (.new 30, 3) := by decide +kernel
theorem dd_SV_init_45 : decode cd_SV_init 45 = .ok (.dup, 1) := by decide +kernel
theorem dd_SV_init_46 : decode cd_SV_init 46 = .ok (.invokespecial 32, 3) := by decide +kernel
theorem dd_SV_init_49 : decode cd_SV_init 49 = .ok (.putfield 33, 3) := by decide +kernel
theorem dd_SV_init_52 : decode cd_SV_init 52 = .ok (.aload_n 0, 1) := by decide +kernel
theorem dd_SV_init_53 : decode cd_SV_init 53 = .ok (.new 37, 3) := by decide +kernel
theorem dd_SV_init_56 : decode cd_SV_init 56 = .ok (.dup, 1) := by decide +kernel
theorem dd_SV_init_57 : decode cd_SV_init 57 = .ok (.aload_n 0, 1) := by decide +kernel
theorem dd_SV_init_58 : decode cd_SV_init 58 = .ok (.getfield 18, 3) := by decide +kernel
theorem dd_SV_init_61 : decode cd_SV_init 61 = .ok (.aload_n 0, 1) := by decide +kernel
theorem dd_SV_init_62 : decode cd_SV_init 62 = .ok (.getfield 33, 3) := by decide +kernel
theorem dd_SV_init_65 : decode cd_SV_init 65 = .ok (.invokespecial 39, 3) := by decide +kernel
theorem dd_SV_init_68 : decode cd_SV_init 68 = .ok (.putfield 42, 3) := by decide +kernel
theorem dd_SV_init_71 : decode cd_SV_init 71 = .ok (.aload_n 0, 1) := by decide +kernel
theorem dd_SV_init_72 : decode cd_SV_init 72 = .ok (.iconst 0, 1) := by decide +kernel
theorem dd_SV_init_73 : decode cd_SV_init 73 = .ok (.putfield 46, 3) := by decide +kernel
theorem dd_SV_init_76 : decode cd_SV_init 76 = .ok (.aload_n 0, 1) := by decide +kernel
theorem dd_SV_init_77 : decode cd_SV_init 77 = .ok (.iconst 0, 1) := by decide +kernel
theorem dd_SV_init_78 : decode cd_SV_init 78 = .ok (.putfield 50, 3) := by decide +kernel
theorem dd_SV_init_81 : decode cd_SV_init 81 = .ok (.aload_n 0, 1) := by decide +kernel
theorem dd_SV_init_82 : decode cd_SV_init 82 = .ok (.iconst 0, 1) := by decide +kernel
theorem dd_SV_init_83 : decode cd_SV_init 83 = .ok (.putfield 53, 3) := by decide +kernel
theorem dd_SV_init_86 : decode cd_SV_init 86 = .ok (.return_, 1) := by decide +kernel
theorem dd_SR_init_0 : decode cd_SR_init 0 = .ok (.aload_n 0, 1) := by decide +kernel
theorem dd_SR_init_1 : decode cd_SR_init 1 = .ok (.invokespecial 3, 3) := by decide +kernel
theorem dd_SR_init_4 : decode cd_SR_init 4 = .ok (.aload_n 0, 1) := by decide +kernel
theorem dd_SR_init_5 : decode cd_SR_init 5 = .ok (.new 9, 3) := by decide +kernel
theorem dd_SR_init_8 : decode cd_SR_init 8 = .ok (.dup, 1) := by decide +kernel
theorem dd_SR_init_9 : decode cd_SR_init 9 = .ok (.invokespecial 11, 3) := by decide +kernel
theorem dd_SR_init_12 : decode cd_SR_init 12 = .ok (.putfield 12, 3) := by decide +kernel
theorem dd_SR_init_15 : decode cd_SR_init 15 = .ok (.aload_n 0, 1) := by decide +kernel
theorem dd_SR_init_16 : decode cd_SR_init 16 = .ok (.new 16, 3) := by decide +kernel
theorem dd_SR_init_19 : decode cd_SR_init 19 = .ok (.dup, 1) := by decide +kernel
theorem dd_SR_init_20 : decode cd_SR_init 20 = .ok (.aload_n 0, 1) := by decide +kernel
theorem dd_SR_init_21 : decode cd_SR_init 21 = .ok (.getfield 12, 3) := by decide +kernel
theorem dd_SR_init_24 : decode cd_SR_init 24 = .ok (.invokespecial 18, 3) := by decide +kernel
theorem dd_SR_init_27 : decode cd_SR_init 27 = .ok (.putfield 21, 3) := by decide +kernel
theorem dd_SR_init_30 : decode cd_SR_init 30 = .ok (.aload_n 0, 1) := by decide +kernel
theorem dd_SR_init_31 : decode cd_SR_init 31 = .ok (.new 25, 3) := by decide +kernel
theorem dd_SR_init_34 : decode cd_SR_init 34 = .ok (.dup, 1) := by decide +kernel
theorem dd_SR_init_35 : decode cd_SR_init 35 = .ok (.invokespecial 27, 3) := by decide +kernel
theorem dd_SR_init_38 : decode cd_SR_init 38 = .ok (.putfield 28, 3) := by decide +kernel
theorem dd_SR_init_41 : decode cd_SR_init 41 = .ok (.aload_n 0, 1) := by decide +kernel
theorem dd_SR_init_42 : decode cd_SR_init 42 = .ok (.new 32, 3) := by decide +kernel
theorem dd_SR_init_45 : decode cd_SR_init 45 = .ok (.dup, 1) := by decide +kernel
theorem dd_SR_init_46 : decode cd_SR_init 46 = .ok (.invokespecial 34, 3) := by decide +kernel
theorem dd_SR_init_49 : decode cd_SR_init 49 = .ok (.putfield 35, 3) := by decide +kernel
theorem dd_SR_init_52 : decode cd_SR_init 52 = .ok (.aload_n 0, 1) := by decide +kernel
theorem dd_SR_init_53 : decode cd_SR_init 53 = .ok (.sipush 928, 3) := by decide +kernel
theorem dd_SR_init_56 : decode cd_SR_init 56 = .ok (.newarray .int, 2) := by decide +kernel
theorem dd_SR_init_58 : decode cd_SR_init 58 = .ok (.putfield 39, 3) := by decide +kernel
theorem dd_SR_init_61 : decode cd_SR_init 61 = .ok (.aload_n 0, 1) := by decide +kernel
theorem dd_SR_init_62 : decode cd_SR_init 62 = .ok (.new 43, 3) := by decide +kernel
theorem dd_SR_init_65 : decode cd_SR_init 65 = .ok (.dup, 1) := by decide +kernel
theorem dd_SR_init_66 : decode cd_SR_init 66 = .ok (.aload_n 0, 1) := by decide +kernel
theorem dd_SR_init_67 : decode cd_SR_init 67 = .ok (.getfield 39, 3) := by decide +kernel
theorem dd_SR_init_70 : decode cd_SR_init 70 = .ok (.invokespecial 45, 3) := by decide +kernel
theorem dd_SR_init_73 : decode cd_SR_init 73 = .ok (.putfield 48, 3) := by decide +kernel
theorem dd_SR_init_76 : decode cd_SR_init 76 = .ok (.aload_n 0, 1) := by decide +kernel
theorem dd_SR_init_77 : decode cd_SR_init 77 = .ok (.iconst 4, 1) := by decide +kernel
theorem dd_SR_init_78 : decode cd_SR_init 78 = .ok (.newarray .int, 2) := by decide +kernel
theorem dd_SR_init_80 : decode cd_SR_init 80 = .ok (.putfield 52, 3) := by decide +kernel
theorem dd_SR_init_83 : decode cd_SR_init 83 = .ok (.return_, 1) := by decide +kernel
theorem dd_SR_feed_0 : decode cd_SR_feed 0 = .ok (.aload_n 0, 1) := by decide +kernel
theorem dd_SR_feed_1 : decode cd_SR_feed 1 = .ok (.getfield 12, 3) := by decide +kernel
theorem dd_SR_feed_4 : decode cd_SR_feed 4 = .ok (.invokevirtual 55, 3) := by decide +kernel
theorem dd_SR_feed_7 : decode cd_SR_feed 7 = .ok (.bipush 20, 2) := by decide +kernel
theorem dd_SR_feed_9 : decode cd_SR_feed 9 = .ok (.iadd, 1) := by decide +kernel
theorem dd_SR_feed_10 : decode cd_SR_feed 10 = .ok (.sipush 1200, 3) := by decide +kernel
theorem dd_SR_feed_13 : decode cd_SR_feed 13 = .ok (.if_icmp .le 11, 3) := by decide +kernel
theorem dd_SR_feed_24 : decode cd_SR_feed 24 = .ok (.aload_n 0, 1) := by decide +kernel
theorem dd_SR_feed_25 : decode cd_SR_feed 25 = .ok (.getfield 12, 3) := by decide +kernel
theorem dd_SR_feed_28 : decode cd_SR_feed 28 = .ok (.iload_n 1, 1) := by decide +kernel
theorem dd_SR_feed_29 : decode cd_SR_feed 29 = .ok (.invokevirtual 62, 3) := by decide +kernel
theorem dd_SR_feed_32 : decode cd_SR_feed 32 = .ok (.aload_n 0, 1) := by decide +kernel
theorem dd_SR_feed_33 : decode cd_SR_feed 33 = .ok (.getfield 12, 3) := by decide +kernel
theorem dd_SR_feed_36 : decode cd_SR_feed 36 = .ok (.iload_n 2, 1) := by decide +kernel
theorem dd_SR_feed_37 : decode cd_SR_feed 37 = .ok (.invokevirtual 62, 3) := by decide +kernel
theorem dd_SR_feed_40 : decode cd_SR_feed 40 = .ok (.aload_n 0, 1) := by decide +kernel
theorem dd_SR_feed_41 : decode cd_SR_feed 41 = .ok (.getfield 12, 3) := by decide +kernel
theorem dd_SR_feed_44 : decode cd_SR_feed 44 = .ok (.iload_n 3, 1) := by decide +kernel
theorem dd_SR_feed_45 : decode cd_SR_feed 45 = .ok (.invokevirtual 62, 3) := by decide +kernel
theorem dd_SR_feed_48 : decode cd_SR_feed 48 = .ok (.aload_n 0, 1) := by decide +kernel
theorem dd_SR_feed_49 : decode cd_SR_feed 49 = .ok (.getfield 12, 3) := by decide +kernel
theorem dd_SR_feed_52 : decode cd_SR_feed 52 = .ok (.iload 4, 2) := by decide +kernel
theorem dd_SR_feed_54 : decode cd_SR_feed 54 = .ok (.invokevirtual 62, 3) := by decide +kernel
theorem dd_SR_feed_57 : decode cd_SR_feed 57 = .ok (.aload_n 0, 1) := by decide +kernel
theorem dd_SR_feed_58 : decode cd_SR_feed 58 = .ok (.getfield 12, 3) := by decide +kernel
theorem dd_SR_feed_61 : decode cd_SR_feed 61 = .ok (.iload 5, 2) := by decide +kernel
theorem dd_SR_feed_63 : decode cd_SR_feed 63 = .ok (.invokevirtual 62, 3) := by decide +kernel
theorem dd_SR_feed_66 : decode cd_SR_feed 66 = .ok (.aload_n 0, 1) := by decide +kernel
theorem dd_SR_feed_67 : decode cd_SR_feed 67 = .ok (.getfield 21, 3) := by decide +kernel
theorem dd_SR_feed_70 : decode cd_SR_feed 70 = .ok (.invokevirtual 66, 3) := by decide +kernel
theorem dd_SR_feed_73 : decode cd_SR_feed 73 = .ok (.aload_n 0, 1) := by decide +kernel
theorem dd_SR_feed_74 : decode cd_SR_feed 74 = .ok (.getfield 12, 3) := by decide +kernel
theorem dd_SR_feed_77 : decode cd_SR_feed 77 = .ok (.invokevirtual 55, 3) := by decide +kernel
theorem dd_SR_feed_80 : decode cd_SR_feed 80 = .ok (.ireturn, 1) := by decide +kernel
theorem dd_SR_end_0 : decode cd_SR_end 0 = .ok (.iload_n 1, 1) := by decide +kernel
theorem dd_SR_end_1 : decode cd_SR_end 1 = .ok (.ifCond .lt 14, 3) := by decide +kernel
theorem dd_SR_end_4 : decode cd_SR_end 4 = .ok (.iload_n 1, 1) := by decide +kernel
theorem dd_SR_end_5 : decode cd_SR_end 5 = .ok (.aload_n 0, 1) := by decide +kernel
theorem dd_SR_end_6 : decode cd_SR_end 6 = .ok (.getfield 12, 3) := by decide +kernel
theorem dd_SR_end_9 : decode cd_SR_end 9 = .ok (.invokevirtual 55, 3) := by decide +kernel
theorem dd_SR_end_12 : decode cd_SR_end 12 = .ok (.if_icmp .le 11, 3) := by decide +kernel
theorem dd_SR_end_15 : decode cd_SR_end 15 = .ok (.new 69, 3) := by decide +kernel
theorem dd_SR_end_18 : decode cd_SR_end 18 = .ok (.dup, 1) := by decide +kernel
theorem dd_SR_end_19 : decode cd_SR_end 19 = .ok (.invokespecial 71, 3) := by decide +kernel
theorem dd_SR_end_22 : decode cd_SR_end 22 = .ok (.athrow, 1) := by decide +kernel
theorem dd_SR_end_23 : decode cd_SR_end 23 = .ok (.aload_n 0, 1) := by decide +kernel
theorem dd_SR_end_24 : decode cd_SR_end 24 = .ok (.getfield 12, 3) := by decide +kernel
theorem dd_SR_end_27 : decode cd_SR_end 27 = .ok (.iload_n 1, 1) := by decide +kernel
theorem dd_SR_end_28 : decode cd_SR_end 28 = .ok (.invokevirtual 72, 3) := by decide +kernel
theorem dd_SR_end_31 : decode cd_SR_end 31 = .ok (.aload_n 0, 1) := by decide +kernel
theorem dd_SR_end_32 : decode cd_SR_end 32 = .ok (.getfield 21, 3) := by decide +kernel
theorem dd_SR_end_35 : decode cd_SR_end 35 = .ok (.invokevirtual 66, 3) := by decide +kernel
theorem dd_SR_end_38 : decode cd_SR_end 38 = .ok (.return_, 1) := by decide +kernel
theorem dd_SR_byteAt_0 : decode cd_SR_byteAt 0 = .ok (.iload_n 1, 1) := by decide +kernel
theorem dd_SR_byteAt_1 : decode cd_SR_byteAt 1 = .ok (.ifCond .lt 14, 3) := by decide +kernel
theorem dd_SR_byteAt_4 : decode cd_SR_byteAt 4 = .ok (.iload_n 1, 1) := by decide +kernel
theorem dd_SR_byteAt_5 : decode cd_SR_byteAt 5 = .ok (.aload_n 0, 1) := by decide +kernel
theorem dd_SR_byteAt_6 : decode cd_SR_byteAt 6 = .ok (.getfield 12, 3) := by decide +kernel
theorem dd_SR_byteAt_9 : decode cd_SR_byteAt 9 = .ok (.invokevirtual 55, 3) := by decide +kernel
theorem dd_SR_byteAt_12 : decode cd_SR_byteAt 12 = .ok (.if_icmp .lt 11, 3) := by decide +kernel
theorem dd_SR_byteAt_15 : decode cd_SR_byteAt 15 = .ok (.new 75, 3) := by decide +kernel
theorem dd_SR_byteAt_18 : decode cd_SR_byteAt 18 = .ok (.dup, 1) := by decide +kernel
theorem dd_SR_byteAt_19 : decode cd_SR_byteAt 19 = .ok (.invokespecial 77, 3) := by decide +kernel
theorem dd_SR_byteAt_22 : decode cd_SR_byteAt 22 = .ok (.athrow, 1) := by decide +kernel
theorem dd_SR_codewords_0 : decode cd_SR_codewords 0 = .ok (.aload_n 0, 1) := by decide +kernel
theorem dd_SR_codewords_1 : decode cd_SR_codewords 1 = .ok (.getfield 21, 3) := by decide +kernel
theorem dd_SR_codewords_4 : decode cd_SR_codewords 4 = .ok (.invokevirtual 82, 3) := by decide +kernel
theorem dd_SR_codewords_7 : decode cd_SR_codewords 7 = .ok (.aload_n 0, 1) := by decide +kernel
theorem dd_SR_codewords_8 : decode cd_SR_codewords 8 = .ok (.getfield 21, 3) := by decide +kernel
theorem dd_SR_codewords_11 : decode cd_SR_codewords 11 = .ok (.invokevirtual 85, 3) := by decide +kernel
theorem dd_SR_codewords_14 : decode cd_SR_codewords 14 = .ok (.ireturn, 1) := by decide +kernel
theorem dd_SR_codeword_0 : decode cd_SR_codeword 0 = .ok (.aload_n 0, 1) := by decide +kernel
theorem dd_SR_codeword_1 : decode cd_SR_codeword 1 = .ok (.getfield 21, 3) := by decide +kernel
theorem dd_SR_codeword_4 : decode cd_SR_codeword 4 = .ok (.invokevirtual 82, 3) := by decide +kernel
theorem dd_SR_codeword_7 : decode cd_SR_codeword 7 = .ok (.iload_n 1, 1) := by decide +kernel
theorem dd_SR_codeword_8 : decode cd_SR_codeword 8 = .ok (.ifCond .lt 14, 3) := by decide +kernel
theorem dd_SR_codeword_11 : decode cd_SR_codeword 11 = .ok (.iload_n 1, 1) := by decide +kernel
theorem dd_SR_codeword_12 : decode cd_SR_codeword 12 = .ok (.aload_n 0, 1) := by decide +kernel
theorem dd_SR_codeword_13 : decode cd_SR_codeword 13 = .ok (.getfield 21, 3) := by decide +kernel
theorem dd_SR_codeword_16 : decode cd_SR_codeword 16 = .ok (.invokevirtual 85, 3) := by decide +kernel
theorem dd_SR_codeword_19 : decode cd_SR_codeword 19 = .ok (.if_icmp .lt 11, 3) := by decide +kernel
theorem dd_SR_codeword_22 : decode cd_SR_codeword 22 = .ok (.new 75, 3) := by decide +kernel
theorem dd_SR_codeword_25 : decode cd_SR_codeword 25 = .ok (.dup, 1) := by decide +kernel
theorem dd_SR_codeword_26 : decode cd_SR_codeword 26 = .ok (.invokespecial 77, 3) := by decide +kernel
theorem dd_SR_codeword_29 : decode cd_SR_codeword 29 = .ok (.athrow, 1) := by decide +kernel
theorem dd_SR_make_0 : decode cd_SR_make 0 = .ok (.iload_n 1, 1) := by decide +kernel
theorem dd_SR_make_1 : decode cd_SR_make 1 = .ok (.ifCond .lt 20, 3) := by decide +kernel
theorem dd_SR_make_4 : decode cd_SR_make 4 = .ok (.iload_n 1, 1) := by decide +kernel
theorem dd_SR_make_5 : decode cd_SR_make 5 = .ok (.bipush 8, 2) := by decide +kernel
theorem dd_SR_make_7 : decode cd_SR_make 7 = .ok (.if_icmp .gt 14, 3) := by decide +kernel
theorem dd_SR_make_10 : decode cd_SR_make 10 = .ok (.iload_n 2, 1) := by decide +kernel
theorem dd_SR_make_11 : decode cd_SR_make 11 = .ok (.iconst 1, 1) := by decide +kernel
theorem dd_SR_make_12 : decode cd_SR_make 12 = .ok (.if_icmp .lt 9, 3) := by decide +kernel
theorem dd_SR_make_15 : decode cd_SR_make 15 = .ok (.iload_n 2, 1) := by decide +kernel
theorem dd_SR_make_16 : decode cd_SR_make 16 = .ok (.bipush 30, 2) := by decide +kernel
theorem dd_SR_make_18 : decode cd_SR_make 18 = .ok (.if_icmp .le 11, 3) := by decide +kernel
theorem dd_SR_make_21 : decode cd_SR_make 21 = .ok (.new 69, 3) := by decide +kernel
theorem dd_SR_make_24 : decode cd_SR_make 24 = .ok (.dup, 1) := by decide +kernel
theorem dd_SR_make_25 : decode cd_SR_make 25 = .ok (.invokespecial 71, 3) := by decide +kernel
theorem dd_SR_make_28 : decode cd_SR_make 28 = .ok (.athrow, 1) := by decide +kernel
theorem dd_SR_make_29 : decode cd_SR_make 29 = .ok (.aload_n 0, 1) := by decide +kernel
theorem dd_SR_make_30 : decode cd_SR_make 30 = .ok (.getfield 21, 3) := by decide +kernel
theorem dd_SR_make_33 : decode cd_SR_make 33 = .ok (.invokevirtual 82, 3) := by decide +kernel
theorem dd_SR_make_36 : decode cd_SR_make 36 = .ok (.iload_n 1, 1) := by decide +kernel
theorem dd_SR_make_37 : decode cd_SR_make 37 = .ok (.invokestatic 87, 3) := by decide +kernel
theorem dd_SR_make_40 : decode cd_SR_make 40 = .ok (.istore_n 3, 1) := by decide +kernel
theorem dd_SR_make_41 : decode cd_SR_make 41 = .ok (.iconst 1, 1) := by decide +kernel
theorem dd_SR_make_42 : decode cd_SR_make 42 = .ok (.aload_n 0, 1) := by decide +kernel
theorem dd_SR_make_43 : decode cd_SR_make 43 = .ok (.getfield 21, 3) := by decide +kernel
theorem dd_SR_make_46 : decode cd_SR_make 46 = .ok (.invokevirtual 85, 3) := by decide +kernel
theorem dd_SR_make_49 : decode cd_SR_make 49 = .ok (.iadd, 1) := by decide +kernel
theorem dd_SR_make_50 : decode cd_SR_make 50 = .ok (.iload_n 3, 1) := by decide +kernel
theorem dd_SR_make_51 : decode cd_SR_make 51 = .ok (.iadd, 1) := by decide +kernel
theorem dd_SR_make_52 : decode cd_SR_make 52 = .ok (.iload_n 2, 1) := by decide +kernel
theorem dd_SR_make_53 : decode cd_SR_make 53 = .ok (.invokestatic 90, 3) := by decide +kernel
theorem dd_SR_make_56 : decode cd_SR_make 56 = .ok (.istore 4, 2) := by decide +kernel
theorem dd_SR_make_58 : decode cd_SR_make 58 = .ok (.iload 4, 2) := by decide +kernel
theorem dd_SR_make_60 : decode cd_SR_make 60 = .ok (.iload_n 2, 1) := by decide +kernel
theorem dd_SR_make_61 : decode cd_SR_make 61 = .ok (.imul, 1) := by decide +kernel
theorem dd_SR_make_62 : decode cd_SR_make 62 = .ok (.istore 5, 2) := by decide +kernel
theorem dd_SR_make_64 : decode cd_SR_make 64 = .ok (.iload 4, 2) := by decide +kernel
theorem dd_SR_make_66 : decode cd_SR_make 66 = .ok (.bipush 90, 2) := by decide +kernel
theorem dd_SR_make_68 : decode cd_SR_make 68 = .ok (.if_icmp .gt 11, 3) := by decide +kernel
theorem dd_SR_make_71 : decode cd_SR_make 71 = .ok (.iload 5, 2) := by decide +kernel
theorem dd_SR_make_73 : decode cd_SR_make 73 = .ok (.sipush 928, 3) := by decide +kernel
theorem dd_SR_make_76 : decode cd_SR_make 76 = .ok (.if_icmp .le 11, 3) := by decide +kernel
theorem dd_SR_make_79 : decode cd_SR_make 79 = .ok (.new 59, 3) := by decide +kernel
theorem dd_SR_make_82 : decode cd_SR_make 82 = .ok (.dup, 1) := by decide +kernel
theorem dd_SR_make_83 : decode cd_SR_make 83 = .ok (.invokespecial 61, 3) := by decide +kernel
theorem dd_SR_make_86 : decode cd_SR_make 86 = .ok (.athrow, 1) := by decide +kernel
theorem dd_SR_make_87 : decode cd_SR_make 87 = .ok (.aload_n 0, 1) := by decide +kernel
theorem dd_SR_make_88 : decode cd_SR_make 88 = .ok (.iload 5, 2) := by decide +kernel
theorem dd_SR_make_90 : decode cd_SR_make 90 = .ok (.iload_n 3, 1) := by decide +kernel
theorem dd_SR_make_91 : decode cd_SR_make 91 = .ok (.isub, 1) := by decide +kernel
theorem dd_SR_make_92 : decode cd_SR_make 92 = .ok (.invokevirtual 94, 3) := by decide +kernel
theorem dd_SR_make_95 : decode cd_SR_make 95 = .ok (.aload_n 0, 1) := by decide +kernel
theorem dd_SR_make_96 : decode cd_SR_make 96 = .ok (.getfield 28, 3) := by decide +kernel
theorem dd_SR_make_99 : decode cd_SR_make 99 = .ok (.aload_n 0, 1) := by decide +kernel
theorem dd_SR_make_100 : decode cd_SR_make 100 = .ok (.getfield 39, 3) := by decide +kernel
theorem dd_SR_make_103 : decode cd_SR_make 103 = .ok (.iload 5, 2) := by decide +kernel
theorem dd_SR_make_105 : decode cd_SR_make 105 = .ok (.iload_n 3, 1) := by decide +kernel
theorem dd_SR_make_106 : decode cd_SR_make 106 = .ok (.invokevirtual 97, 3) := by decide +kernel
theorem dd_SR_make_109 : decode cd_SR_make 109 = .ok (.aload_n 0, 1) := by decide +kernel
theorem dd_SR_make_110 : decode cd_SR_make 110 = .ok (.getfield 35, 3) := by decide +kernel
theorem dd_SR_make_113 : decode cd_SR_make 113 = .ok (.iload 4, 2) := by decide +kernel
theorem dd_SR_make_115 : decode cd_SR_make 115 = .ok (.iload_n 2, 1) := by decide +kernel
theorem dd_SR_make_116 : decode cd_SR_make 116 = .ok (.invokevirtual 100, 3) := by decide +kernel
theorem dd_SR_make_119 : decode cd_SR_make 119 = .ok (.aload_n 0, 1) := by decide +kernel
theorem dd_SR_make_120 : decode cd_SR_make 120 = .ok (.getfield 35, 3) := by decide +kernel
theorem dd_SR_make_123 : decode cd_SR_make 123 = .ok (.aload_n 0, 1) := by decide +kernel
theorem dd_SR_make_124 : decode cd_SR_make 124 = .ok (.getfield 39, 3) := by decide +kernel
theorem dd_SR_make_127 : decode cd_SR_make 127 = .ok (.iload_n 1, 1) := by decide +kernel
theorem dd_SR_make_128 : decode cd_SR_make 128 = .ok (.invokevirtual 104, 3) := by decide +kernel
theorem dd_SR_make_131 : decode cd_SR_make 131 = .ok (.iload 4, 2) := by decide +kernel
theorem dd_SR_make_133 : decode cd_SR_make 133 = .ok (.ireturn, 1) := by decide +kernel
theorem dd_SR_fillRow_0 : decode cd_SR_fillRow 0 = .ok (.aload_n 0, 1) := by decide +kernel
theorem dd_SR_fillRow_1 : decode cd_SR_fillRow 1 = .ok (.getfield 39, 3) := by decide +kernel
theorem dd_SR_fillRow_4 : decode cd_SR_fillRow 4 = .ok (.iconst 0, 1) := by decide +kernel
theorem dd_SR_fillRow_5 : decode cd_SR_fillRow 5 = .ok (.iload_n 1, 1) := by decide +kernel
theorem dd_SR_fillRow_6 : decode cd_SR_fillRow 6 = .ok (.iastore, 1) := by decide +kernel
theorem dd_SR_fillRow_7 : decode cd_SR_fillRow 7 = .ok (.iconst 1, 1) := by decide +kernel
theorem dd_SR_fillRow_8 : decode cd_SR_fillRow 8 = .ok (.istore_n 2, 1) := by decide +kernel
theorem dd_SR_fillRow_9 : decode cd_SR_fillRow 9 = .ok (.iload_n 2, 1) := by decide +kernel
theorem dd_SR_fillRow_10 : decode cd_SR_fillRow 10 = .ok (.iload_n 1, 1) := by decide +kernel
theorem dd_SR_fillRow_11 : decode cd_SR_fillRow 11 = .ok (.if_icmp .ge 42, 3) := by decide +kernel
theorem dd_SR_fillRow_14 : decode cd_SR_fillRow 14 = .ok (.aload_n 0, 1) := by decide +kernel
theorem dd_SR_fillRow_15 : decode cd_SR_fillRow 15 = .ok (.getfield 39, 3) := by decide +kernel
theorem dd_SR_fillRow_18 : decode cd_SR_fillRow 18 = .ok (.iload_n 2, 1) := by decide +kernel
theorem dd_SR_fillRow_19 : decode cd_SR_fillRow 19 = .ok (.iload_n 2, 1) := by decide +kernel
theorem dd_SR_fillRow_20 : decode cd_SR_fillRow 20 = .ok (.aload_n 0, 1) := by decide +kernel
theorem dd_SR_fillRow_21 : decode cd_SR_fillRow 21 = .ok (.getfield 21, 3) := by decide +kernel
theorem dd_SR_fillRow_24 : decode cd_SR_fillRow 24 = .ok (.invokevirtual 85, 3) := by decide +kernel
theorem dd_SR_fillRow_27 : decode cd_SR_fillRow 27 = .ok (.if_icmp .gt 16, 3) := by decide +kernel
theorem dd_SR_fillRow_43 : decode cd_SR_fillRow 43 = .ok (.sipush 900, 3) := by decide +kernel
theorem dd_SR_fillRow_46 : decode cd_SR_fillRow 46 = .ok (.iastore, 1) := by decide +kernel
theorem dd_SR_fillRow_47 : decode cd_SR_fillRow 47 = .ok (.iinc 2 1, 3) := by decide +kernel
theorem dd_SR_fillRow_50 : decode cd_SR_fillRow 50 = .ok (.goto (-41), 3) := by decide +kernel
theorem dd_SR_fillRow_53 : decode cd_SR_fillRow 53 = .ok (.return_, 1) := by decide +kernel
theorem dd_SR_blank_0 : decode cd_SR_blank 0 = .ok (.iload_n 1, 1) := by decide +kernel
theorem dd_SR_blank_1 : decode cd_SR_blank 1 = .ok (.iconst 3, 1) := by decide +kernel
theorem dd_SR_blank_2 : decode cd_SR_blank 2 = .ok (.if_icmp .lt 20, 3) := by decide +kernel
theorem dd_SR_blank_5 : decode cd_SR_blank 5 = .ok (.iload_n 1, 1) := by decide +kernel
theorem dd_SR_blank_6 : decode cd_SR_blank 6 = .ok (.bipush 90, 2) := by decide +kernel
theorem dd_SR_blank_8 : decode cd_SR_blank 8 = .ok (.if_icmp .gt 14, 3) := by decide +kernel
theorem dd_SR_blank_11 : decode cd_SR_blank 11 = .ok (.iload_n 2, 1) := by decide +kernel
theorem dd_SR_blank_12 : decode cd_SR_blank 12 = .ok (.iconst 1, 1) := by decide +kernel
theorem dd_SR_blank_13 : decode cd_SR_blank 13 = .ok (.if_icmp .lt 9, 3) := by decide +kernel
theorem dd_SR_blank_16 : decode cd_SR_blank 16 = .ok (.iload_n 2, 1) := by decide +kernel
theorem dd_SR_blank_17 : decode cd_SR_blank 17 = .ok (.bipush 30, 2) := by decide +kernel
theorem dd_SR_blank_19 : decode cd_SR_blank 19 = .ok (.if_icmp .le 11, 3) := by decide +kernel
theorem dd_SR_blank_22 : decode cd_SR_blank 22 = .ok (.new 69, 3) := by decide +kernel
theorem dd_SR_blank_25 : decode cd_SR_blank 25 = .ok (.dup, 1) := by decide +kernel
theorem dd_SR_blank_26 : decode cd_SR_blank 26 = .ok (.invokespecial 71, 3) := by decide +kernel
theorem dd_SR_blank_29 : decode cd_SR_blank 29 = .ok (.athrow, 1) := by decide +kernel
theorem dd_SR_blank_30 : decode cd_SR_blank 30 = .ok (.iload_n 1, 1) := by decide +kernel
theorem dd_SR_blank_31 : decode cd_SR_blank 31 = .ok (.iload_n 2, 1) := by decide +kernel
theorem dd_SR_blank_32 : decode cd_SR_blank 32 = .ok (.imul, 1) := by decide +kernel
theorem dd_SR_blank_33 : decode cd_SR_blank 33 = .ok (.sipush 928, 3) := by decide +kernel
theorem dd_SR_blank_36 : decode cd_SR_blank 36 = .ok (.if_icmp .le 11, 3) := by decide +kernel
theorem dd_SR_blank_39 : decode cd_SR_blank 39 = .ok (.new 69, 3) := by decide +kernel
theorem dd_SR_blank_42 : decode cd_SR_blank 42 = .ok (.dup, 1) := by decide +kernel
theorem dd_SR_blank_43 : decode cd_SR_blank 43 = .ok (.invokespecial 71, 3) := by decide +kernel
theorem dd_SR_blank_46 : decode cd_SR_blank 46 = .ok (.athrow, 1) := by decide +kernel
theorem dd_SR_blank_47 : decode cd_SR_blank 47 = .ok (.aload_n 0, 1) := by decide +kernel
theorem dd_SR_blank_48 : decode cd_SR_blank 48 = .ok (.getfield 35, 3) := by decide +kernel
theorem dd_SR_blank_51 : decode cd_SR_blank 51 = .ok (.iload_n 1, 1) := by decide +kernel
theorem dd_SR_blank_52 : decode cd_SR_blank 52 = .ok (.iload_n 2, 1) := by decide +kernel
theorem dd_SR_blank_53 : decode cd_SR_blank 53 = .ok (.invokevirtual 100, 3) := by decide +kernel
theorem dd_SR_blank_56 : decode cd_SR_blank 56 = .ok (.return_, 1) := by decide +kernel
theorem dd_SR_place_0 : decode cd_SR_place 0 = .ok (.aload_n 0, 1) := by decide +kernel
theorem dd_SR_place_1 : decode cd_SR_place 1 = .ok (.getfield 35, 3) := by decide +kernel
theorem dd_SR_place_4 : decode cd_SR_place 4 = .ok (.invokevirtual 108, 3) := by decide +kernel
theorem dd_SR_place_7 : decode cd_SR_place 7 = .ok (.ifCond .ne 11, 3) := by decide +kernel
theorem dd_SR_place_10 : decode cd_SR_place 10 = .ok (.new 112, 3) := by decide +kernel
theorem dd_SR_place_13 : decode cd_SR_place 13 = .ok (.dup, 1) := by decide +kernel
theorem dd_SR_place_14 : decode cd_SR_place 14 = .ok (.invokespecial 114, 3) := by decide +kernel
theorem dd_SR_place_17 : decode cd_SR_place 17 = .ok (.athrow, 1) := by decide +kernel
theorem dd_SR_put_0 : decode cd_SR_put 0 = .ok (.aload_n 0, 1) := by decide +kernel
theorem dd_SR_put_1 : decode cd_SR_put 1 = .ok (.getfield 35, 3) := by decide +kernel
theorem dd_SR_put_4 : decode cd_SR_put 4 = .ok (.invokevirtual 108, 3) := by decide +kernel
theorem dd_SR_put_7 : decode cd_SR_put 7 = .ok (.ifCond .ne 11, 3) := by decide +kernel
theorem dd_SR_put_10 : decode cd_SR_put 10 = .ok (.new 112, 3) := by decide +kernel
theorem dd_SR_put_13 : decode cd_SR_put 13 = .ok (.dup, 1) := by decide +kernel
theorem dd_SR_put_14 : decode cd_SR_put 14 = .ok (.invokespecial 114, 3) := by decide +kernel
theorem dd_SR_put_17 : decode cd_SR_put 17 = .ok (.athrow, 1) := by decide +kernel
theorem dd_SR_solve_0 : decode cd_SR_solve 0 = .ok (.aload_n 0, 1) := by decide +kernel
theorem dd_SR_solve_1 : decode cd_SR_solve 1 = .ok (.getfield 35, 3) := by decide +kernel
theorem dd_SR_solve_4 : decode cd_SR_solve 4 = .ok (.invokevirtual 108, 3) := by decide +kernel
theorem dd_SR_solve_7 : decode cd_SR_solve 7 = .ok (.ifCond .ne 11, 3) := by decide +kernel
theorem dd_SR_solve_10 : decode cd_SR_solve 10 = .ok (.new 112, 3) := by decide +kernel
theorem dd_SR_solve_13 : decode cd_SR_solve 13 = .ok (.dup, 1) := by decide +kernel
theorem dd_SR_solve_14 : decode cd_SR_solve 14 = .ok (.invokespecial 114, 3) := by decide +kernel
theorem dd_SR_solve_17 : decode cd_SR_solve 17 = .ok (.athrow, 1) := by decide +kernel
theorem dd_SR_solved_0 : decode cd_SR_solved 0 = .ok (.iload_n 1, 1) := by decide +kernel
theorem dd_SR_solved_1 : decode cd_SR_solved 1 = .ok (.ifCond .lt 12, 3) := by decide +kernel
theorem dd_SR_solved_4 : decode cd_SR_solved 4 = .ok (.iload_n 1, 1) := by decide +kernel
theorem dd_SR_solved_5 : decode cd_SR_solved 5 = .ok (.aload_n 0, 1) := by decide +kernel
theorem dd_SR_solved_6 : decode cd_SR_solved 6 = .ok (.getfield 52, 3) := by decide +kernel
theorem dd_SR_solved_9 : decode cd_SR_solved 9 = .ok (.arraylength, 1) := by decide +kernel
theorem dd_SR_solved_10 : decode cd_SR_solved 10 = .ok (.if_icmp .lt 11, 3) := by decide +kernel
theorem dd_SR_solved_13 : decode cd_SR_solved 13 = .ok (.new 75, 3) := by decide +kernel
theorem dd_SR_solved_16 : decode cd_SR_solved 16 = .ok (.dup, 1) := by decide +kernel
theorem dd_SR_solved_17 : decode cd_SR_solved 17 = .ok (.invokespecial 77, 3) := by decide +kernel
theorem dd_SR_solved_20 : decode cd_SR_solved 20 = .ok (.athrow, 1) := by decide +kernel
theorem dd_SR_solved_21 : decode cd_SR_solved 21 = .ok (.aload_n 0, 1) := by decide +kernel
theorem dd_SR_solved_22 : decode cd_SR_solved 22 = .ok (.getfield 52, 3) := by decide +kernel
theorem dd_SR_solved_25 : decode cd_SR_solved 25 = .ok (.iload_n 1, 1) := by decide +kernel
theorem dd_SR_solved_26 : decode cd_SR_solved 26 = .ok (.iaload, 1) := by decide +kernel
theorem dd_SR_solved_27 : decode cd_SR_solved 27 = .ok (.ireturn, 1) := by decide +kernel
theorem dd_SR_count_0 : decode cd_SR_count 0 = .ok (.iload_n 1, 1) := by decide +kernel
theorem dd_SR_count_1 : decode cd_SR_count 1 = .ok (.ifCond .lt 8, 3) := by decide +kernel
theorem dd_SR_count_4 : decode cd_SR_count 4 = .ok (.iload_n 1, 1) := by decide +kernel
theorem dd_SR_count_5 : decode cd_SR_count 5 = .ok (.iconst 2, 1) := by decide +kernel
theorem dd_SR_count_6 : decode cd_SR_count 6 = .ok (.if_icmp .le 11, 3) := by decide +kernel
theorem dd_SR_count_9 : decode cd_SR_count 9 = .ok (.new 69, 3) := by decide +kernel
theorem dd_SR_count_12 : decode cd_SR_count 12 = .ok (.dup, 1) := by decide +kernel
theorem dd_SR_count_13 : decode cd_SR_count 13 = .ok (.invokespecial 71, 3) := by decide +kernel
theorem dd_SR_count_16 : decode cd_SR_count 16 = .ok (.athrow, 1) := by decide +kernel
theorem dd_SR_count_17 : decode cd_SR_count 17 = .ok (.iload_n 1, 1) := by decide +kernel
theorem dd_SR_count_18 : decode cd_SR_count 18 = .ok (.ifCond .ne 11, 3) := by decide +kernel
theorem dd_SR_count_21 : decode cd_SR_count 21 = .ok (.aload_n 0, 1) := by decide +kernel
theorem dd_SR_count_22 : decode cd_SR_count 22 = .ok (.getfield 12, 3) := by decide +kernel
theorem dd_SR_count_25 : decode cd_SR_count 25 = .ok (.invokevirtual 55, 3) := by decide +kernel
theorem dd_SR_count_28 : decode cd_SR_count 28 = .ok (.ireturn, 1) := by decide +kernel
theorem dd_SR_count_29 : decode cd_SR_count 29 = .ok (.iload_n 1, 1) := by decide +kernel
theorem dd_SR_count_30 : decode cd_SR_count 30 = .ok (.iconst 1, 1) := by decide +kernel
theorem dd_SR_count_31 : decode cd_SR_count 31 = .ok (.if_icmp .ne 13, 3) := by decide +kernel
theorem dd_SR_count_34 : decode cd_SR_count 34 = .ok (.aload_n 0, 1) := by decide +kernel
theorem dd_SR_count_35 : decode cd_SR_count 35 = .ok (.getfield 35, 3) := by decide +kernel
theorem dd_SR_count_38 : decode cd_SR_count 38 = .ok (.invokevirtual 145, 3) := by decide +kernel
theorem dd_SR_count_41 : decode cd_SR_count 41 = .ok (.goto 10, 3) := by decide +kernel
theorem dd_SR_count_44 : decode cd_SR_count 44 = .ok (.aload_n 0, 1) := by decide +kernel
theorem dd_SR_count_45 : decode cd_SR_count 45 = .ok (.getfield 35, 3) := by decide +kernel
theorem dd_SR_count_48 : decode cd_SR_count 48 = .ok (.invokevirtual 148, 3) := by decide +kernel
theorem dd_SR_count_51 : decode cd_SR_count 51 = .ok (.ireturn, 1) := by decide +kernel
theorem dd_LW_feed_0 : decode cd_LW_feed 0 = .ok (.aload 6, 2) := by decide +kernel
theorem dd_LW_feed_2 : decode cd_LW_feed 2 = .ok (.iconst 0, 1) := by decide +kernel
theorem dd_LW_feed_3 : decode cd_LW_feed 3 = .ok (.aload_n 0, 1) := by decide +kernel
theorem dd_LW_feed_4 : decode cd_LW_feed 4 = .ok (.iload_n 1, 1) := by decide +kernel
theorem dd_LW_feed_5 : decode cd_LW_feed 5 = .ok (.iload_n 2, 1) := by decide +kernel
theorem dd_LW_feed_6 : decode cd_LW_feed 6 = .ok (.iload_n 3, 1) := by decide +kernel
theorem dd_LW_feed_7 : decode cd_LW_feed 7 = .ok (.iload 4, 2) := by decide +kernel
theorem dd_LW_feed_9 : decode cd_LW_feed 9 = .ok (.iload 5, 2) := by decide +kernel
theorem dd_LW_feed_11 : decode cd_LW_feed 11 = .ok (.invokevirtual 7, 3) := by decide +kernel
theorem dd_LW_feed_14 : decode cd_LW_feed 14 = .ok (.i2l, 1) := by decide +kernel
theorem dd_LW_feed_15 : decode cd_LW_feed 15 = .ok (.lastore, 1) := by decide +kernel
theorem dd_LW_feed_16 : decode cd_LW_feed 16 = .ok (.goto 7, 3) := by decide +kernel
theorem dd_LW_feed_23 : decode cd_LW_feed 23 = .ok (.iconst 0, 1) := by decide +kernel
theorem dd_LW_feed_24 : decode cd_LW_feed 24 = .ok (.ireturn, 1) := by decide +kernel
theorem dd_LW_end_0 : decode cd_LW_end 0 = .ok (.aload_n 0, 1) := by decide +kernel
theorem dd_LW_end_1 : decode cd_LW_end 1 = .ok (.iload_n 1, 1) := by decide +kernel
theorem dd_LW_end_2 : decode cd_LW_end 2 = .ok (.invokevirtual 15, 3) := by decide +kernel
theorem dd_LW_end_5 : decode cd_LW_end 5 = .ok (.goto 6, 3) := by decide +kernel
theorem dd_LW_end_8 : decode cd_LW_end 8 = .ok (.astore_n 2, 1) := by decide +kernel
theorem dd_LW_end_9 : decode cd_LW_end 9 = .ok (.iconst 1, 1) := by decide +kernel
theorem dd_LW_end_10 : decode cd_LW_end 10 = .ok (.ireturn, 1) := by decide +kernel
theorem dd_LW_end_11 : decode cd_LW_end 11 = .ok (.iconst 0, 1) := by decide +kernel
theorem dd_LW_end_12 : decode cd_LW_end 12 = .ok (.ireturn, 1) := by decide +kernel
theorem dd_LW_byteAt_0 : decode cd_LW_byteAt 0 = .ok (.aload_n 2, 1) := by decide +kernel
theorem dd_LW_byteAt_1 : decode cd_LW_byteAt 1 = .ok (.iconst 0, 1) := by decide +kernel
theorem dd_LW_byteAt_2 : decode cd_LW_byteAt 2 = .ok (.aload_n 0, 1) := by decide +kernel
theorem dd_LW_byteAt_3 : decode cd_LW_byteAt 3 = .ok (.iload_n 1, 1) := by decide +kernel
theorem dd_LW_byteAt_4 : decode cd_LW_byteAt 4 = .ok (.invokevirtual 21, 3) := by decide +kernel
theorem dd_LW_byteAt_12 : decode cd_LW_byteAt 12 = .ok (.astore_n 3, 1) := by decide +kernel
theorem dd_LW_byteAt_13 : decode cd_LW_byteAt 13 = .ok (.iconst 1, 1) := by decide +kernel
theorem dd_LW_byteAt_14 : decode cd_LW_byteAt 14 = .ok (.ireturn, 1) := by decide +kernel
theorem dd_LW_codeword_0 : decode cd_LW_codeword 0 = .ok (.aload_n 2, 1) := by decide +kernel
theorem dd_LW_codeword_1 : decode cd_LW_codeword 1 = .ok (.iconst 0, 1) := by decide +kernel
theorem dd_LW_codeword_2 : decode cd_LW_codeword 2 = .ok (.aload_n 0, 1) := by decide +kernel
theorem dd_LW_codeword_3 : decode cd_LW_codeword 3 = .ok (.iload_n 1, 1) := by decide +kernel
theorem dd_LW_codeword_4 : decode cd_LW_codeword 4 = .ok (.invokevirtual 27, 3) := by decide +kernel
theorem dd_LW_codeword_12 : decode cd_LW_codeword 12 = .ok (.astore_n 3, 1) := by decide +kernel
theorem dd_LW_codeword_13 : decode cd_LW_codeword 13 = .ok (.iconst 1, 1) := by decide +kernel
theorem dd_LW_codeword_14 : decode cd_LW_codeword 14 = .ok (.ireturn, 1) := by decide +kernel
theorem dd_LW_make_0 : decode cd_LW_make 0 = .ok (.aload_n 3, 1) := by decide +kernel
theorem dd_LW_make_1 : decode cd_LW_make 1 = .ok (.iconst 0, 1) := by decide +kernel
theorem dd_LW_make_2 : decode cd_LW_make 2 = .ok (.aload_n 0, 1) := by decide +kernel
theorem dd_LW_make_3 : decode cd_LW_make 3 = .ok (.iload_n 1, 1) := by decide +kernel
theorem dd_LW_make_4 : decode cd_LW_make 4 = .ok (.iload_n 2, 1) := by decide +kernel
theorem dd_LW_make_5 : decode cd_LW_make 5 = .ok (.invokevirtual 30, 3) := by decide +kernel
theorem dd_LW_make_8 : decode cd_LW_make 8 = .ok (.i2l, 1) := by decide +kernel
theorem dd_LW_make_9 : decode cd_LW_make 9 = .ok (.lastore, 1) := by decide +kernel
theorem dd_LW_make_10 : decode cd_LW_make 10 = .ok (.goto 11, 3) := by decide +kernel
theorem dd_LW_make_13 : decode cd_LW_make 13 = .ok (.astore 4, 2) := by decide +kernel
theorem dd_LW_make_15 : decode cd_LW_make 15 = .ok (.iconst 1, 1) := by decide +kernel
theorem dd_LW_make_16 : decode cd_LW_make 16 = .ok (.ireturn, 1) := by decide +kernel
theorem dd_LW_make_17 : decode cd_LW_make 17 = .ok (.astore 4, 2) := by decide +kernel
theorem dd_LW_make_19 : decode cd_LW_make 19 = .ok (.iconst 2, 1) := by decide +kernel
theorem dd_LW_make_20 : decode cd_LW_make 20 = .ok (.ireturn, 1) := by decide +kernel
theorem dd_LW_make_21 : decode cd_LW_make 21 = .ok (.iconst 0, 1) := by decide +kernel
theorem dd_LW_make_22 : decode cd_LW_make 22 = .ok (.ireturn, 1) := by decide +kernel
theorem dd_LW_blank_0 : decode cd_LW_blank 0 = .ok (.aload_n 0, 1) := by decide +kernel
theorem dd_LW_blank_1 : decode cd_LW_blank 1 = .ok (.iload_n 1, 1) := by decide +kernel
theorem dd_LW_blank_2 : decode cd_LW_blank 2 = .ok (.iload_n 2, 1) := by decide +kernel
theorem dd_LW_blank_3 : decode cd_LW_blank 3 = .ok (.invokevirtual 34, 3) := by decide +kernel
theorem dd_LW_blank_6 : decode cd_LW_blank 6 = .ok (.goto 6, 3) := by decide +kernel
theorem dd_LW_blank_9 : decode cd_LW_blank 9 = .ok (.astore_n 3, 1) := by decide +kernel
theorem dd_LW_blank_10 : decode cd_LW_blank 10 = .ok (.iconst 1, 1) := by decide +kernel
theorem dd_LW_blank_11 : decode cd_LW_blank 11 = .ok (.ireturn, 1) := by decide +kernel
theorem dd_LW_blank_12 : decode cd_LW_blank 12 = .ok (.iconst 0, 1) := by decide +kernel
theorem dd_LW_blank_13 : decode cd_LW_blank 13 = .ok (.ireturn, 1) := by decide +kernel
theorem dd_LW_place_0 : decode cd_LW_place 0 = .ok (.aload_n 3, 1) := by decide +kernel
theorem dd_LW_place_1 : decode cd_LW_place 1 = .ok (.iconst 0, 1) := by decide +kernel
theorem dd_LW_place_2 : decode cd_LW_place 2 = .ok (.aload_n 0, 1) := by decide +kernel
theorem dd_LW_place_3 : decode cd_LW_place 3 = .ok (.iload_n 1, 1) := by decide +kernel
theorem dd_LW_place_4 : decode cd_LW_place 4 = .ok (.iload_n 2, 1) := by decide +kernel
theorem dd_LW_place_5 : decode cd_LW_place 5 = .ok (.invokevirtual 38, 3) := by decide +kernel
theorem dd_LW_place_13 : decode cd_LW_place 13 = .ok (.astore 4, 2) := by decide +kernel
theorem dd_LW_place_15 : decode cd_LW_place 15 = .ok (.iconst 1, 1) := by decide +kernel
theorem dd_LW_place_16 : decode cd_LW_place 16 = .ok (.ireturn, 1) := by decide +kernel
theorem dd_LW_put_0 : decode cd_LW_put 0 = .ok (.aload_n 0, 1) := by decide +kernel
theorem dd_LW_put_1 : decode cd_LW_put 1 = .ok (.iload_n 1, 1) := by decide +kernel
theorem dd_LW_put_2 : decode cd_LW_put 2 = .ok (.iload_n 2, 1) := by decide +kernel
theorem dd_LW_put_3 : decode cd_LW_put 3 = .ok (.iload_n 3, 1) := by decide +kernel
theorem dd_LW_put_4 : decode cd_LW_put 4 = .ok (.invokevirtual 43, 3) := by decide +kernel
theorem dd_LW_put_10 : decode cd_LW_put 10 = .ok (.astore 4, 2) := by decide +kernel
theorem dd_LW_put_12 : decode cd_LW_put 12 = .ok (.iconst 1, 1) := by decide +kernel
theorem dd_LW_put_13 : decode cd_LW_put 13 = .ok (.ireturn, 1) := by decide +kernel
theorem dd_LW_solve_0 : decode cd_LW_solve 0 = .ok (.aload_n 1, 1) := by decide +kernel
theorem dd_LW_solve_1 : decode cd_LW_solve 1 = .ok (.iconst 0, 1) := by decide +kernel
theorem dd_LW_solve_2 : decode cd_LW_solve 2 = .ok (.aload_n 0, 1) := by decide +kernel
theorem dd_LW_solve_3 : decode cd_LW_solve 3 = .ok (.invokevirtual 47, 3) := by decide +kernel
theorem dd_LW_solve_11 : decode cd_LW_solve 11 = .ok (.astore_n 2, 1) := by decide +kernel
theorem dd_LW_solve_12 : decode cd_LW_solve 12 = .ok (.iconst 1, 1) := by decide +kernel
theorem dd_LW_solve_13 : decode cd_LW_solve 13 = .ok (.ireturn, 1) := by decide +kernel
theorem dd_LW_solved_0 : decode cd_LW_solved 0 = .ok (.aload_n 2, 1) := by decide +kernel
theorem dd_LW_solved_1 : decode cd_LW_solved 1 = .ok (.iconst 0, 1) := by decide +kernel
theorem dd_LW_solved_2 : decode cd_LW_solved 2 = .ok (.aload_n 0, 1) := by decide +kernel
theorem dd_LW_solved_3 : decode cd_LW_solved 3 = .ok (.iload_n 1, 1) := by decide +kernel
theorem dd_LW_solved_4 : decode cd_LW_solved 4 = .ok (.invokevirtual 51, 3) := by decide +kernel
theorem dd_LW_solved_7 : decode cd_LW_solved 7 = .ok (.i2l, 1) := by decide +kernel
theorem dd_LW_solved_8 : decode cd_LW_solved 8 = .ok (.lastore, 1) := by decide +kernel
theorem dd_LW_solved_9 : decode cd_LW_solved 9 = .ok (.goto 6, 3) := by decide +kernel
theorem dd_LW_solved_12 : decode cd_LW_solved 12 = .ok (.astore_n 3, 1) := by decide +kernel
theorem dd_LW_solved_13 : decode cd_LW_solved 13 = .ok (.iconst 1, 1) := by decide +kernel
theorem dd_LW_solved_14 : decode cd_LW_solved 14 = .ok (.ireturn, 1) := by decide +kernel
theorem dd_LW_solved_15 : decode cd_LW_solved 15 = .ok (.iconst 0, 1) := by decide +kernel
theorem dd_LW_solved_16 : decode cd_LW_solved 16 = .ok (.ireturn, 1) := by decide +kernel
theorem dd_LW_count_0 : decode cd_LW_count 0 = .ok (.aload_n 2, 1) := by decide +kernel
theorem dd_LW_count_1 : decode cd_LW_count 1 = .ok (.iconst 0, 1) := by decide +kernel
theorem dd_LW_count_2 : decode cd_LW_count 2 = .ok (.aload_n 0, 1) := by decide +kernel
theorem dd_LW_count_3 : decode cd_LW_count 3 = .ok (.iload_n 1, 1) := by decide +kernel
theorem dd_LW_count_4 : decode cd_LW_count 4 = .ok (.invokevirtual 54, 3) := by decide +kernel
theorem dd_LW_count_7 : decode cd_LW_count 7 = .ok (.i2l, 1) := by decide +kernel
theorem dd_LW_count_8 : decode cd_LW_count 8 = .ok (.lastore, 1) := by decide +kernel
theorem dd_LW_count_9 : decode cd_LW_count 9 = .ok (.goto 6, 3) := by decide +kernel
theorem dd_LW_count_12 : decode cd_LW_count 12 = .ok (.astore_n 3, 1) := by decide +kernel
theorem dd_LW_count_13 : decode cd_LW_count 13 = .ok (.iconst 1, 1) := by decide +kernel
theorem dd_LW_count_14 : decode cd_LW_count 14 = .ok (.ireturn, 1) := by decide +kernel
theorem dd_LW_count_15 : decode cd_LW_count 15 = .ok (.iconst 0, 1) := by decide +kernel
theorem dd_LW_count_16 : decode cd_LW_count 16 = .ok (.ireturn, 1) := by decide +kernel
