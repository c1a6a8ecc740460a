theorem dTr_init_0 : decode cTr_init 0 = .ok (.aload_n 0, 1) := by decide +kernel
theorem dTr_init_1 : decode cTr_init 1 = .ok (.invokespecial 3, 3) := by decide +kernel
theorem dTr_init_4 : decode cTr_init 4 = .ok (.return_, 1) := by decide +kernel
theorem dCo_init_0 : decode cCo_init 0 = .ok (.aload_n 0, 1) := by decide +kernel
theorem dCo_init_1 : decode cCo_init 1 = .ok (.invokespecial 3, 3) := by decide +kernel
theorem dCo_init_4 : decode cCo_init 4 = .ok (.aload_n 0, 1) := by decide +kernel
theorem dCo_init_5 : decode cCo_init 5 = .ok (.sipush 512, 3) := by decide +kernel
theorem dCo_init_8 : decode cCo_init 8 = .ok (.newarray .boolean, 2) := by decide +kernel
theorem dCo_init_10 : decode cCo_init 10 = .ok (.putfield 9, 3) := by decide +kernel
theorem dCo_init_13 : decode cCo_init 13 = .ok (.return_, 1) := by decide +kernel
theorem dEn_init_0 : decode cEn_init 0 = .ok (.aload_n 0, 1) := by decide +kernel
theorem dEn_init_1 : decode cEn_init 1 = .ok (.invokespecial 1, 3) := by decide +kernel
theorem dEn_init_4 : decode cEn_init 4 = .ok (.return_, 1) := by decide +kernel
theorem dPa_init_0 : decode cPa_init 0 = .ok (.aload_n 0, 1) := by decide +kernel
theorem dPa_init_1 : decode cPa_init 1 = .ok (.invokespecial 3, 3) := by decide +kernel
theorem dPa_init_4 : decode cPa_init 4 = .ok (.aload_n 0, 1) := by decide +kernel
theorem dPa_init_5 : decode cPa_init 5 = .ok (.sipush 229, 3) := by decide +kernel
theorem dPa_init_8 : decode cPa_init 8 = .ok (.newarray .int, 2) := by decide +kernel
theorem dPa_init_10 : decode cPa_init 10 = .ok (.putfield 9, 3) := by decide +kernel
theorem dPa_init_13 : decode cPa_init 13 = .ok (.return_, 1) := by decide +kernel
theorem dCh_init_0 : decode cCh_init 0 = .ok (.aload_n 0, 1) := by decide +kernel
theorem dCh_init_1 : decode cCh_init 1 = .ok (.invokespecial 3, 3) := by decide +kernel
theorem dCh_init_4 : decode cCh_init 4 = .ok (.aload_n 0, 1) := by decide +kernel
theorem dCh_init_5 : decode cCh_init 5 = .ok (.sipush 256, 3) := by decide +kernel
theorem dCh_init_8 : decode cCh_init 8 = .ok (.newarray .boolean, 2) := by decide +kernel
theorem dCh_init_10 : decode cCh_init 10 = .ok (.putfield 9, 3) := by decide +kernel
theorem dCh_init_13 : decode cCh_init 13 = .ok (.aload_n 0, 1) := by decide +kernel
theorem dCh_init_14 : decode cCh_init 14 = .ok (.sipush 128, 3) := by decide +kernel
theorem dCh_init_17 : decode cCh_init 17 = .ok (.newarray .int, 2) := by decide +kernel
theorem dCh_init_19 : decode cCh_init 19 = .ok (.putfield 15, 3) := by decide +kernel
theorem dCh_init_22 : decode cCh_init 22 = .ok (.aload_n 0, 1) := by decide +kernel
theorem dCh_init_23 : decode cCh_init 23 = .ok (.sipush 128, 3) := by decide +kernel
theorem dCh_init_26 : decode cCh_init 26 = .ok (.newarray .int, 2) := by decide +kernel
theorem dCh_init_28 : decode cCh_init 28 = .ok (.putfield 19, 3) := by decide +kernel
theorem dCh_init_31 : decode cCh_init 31 = .ok (.return_, 1) := by decide +kernel
theorem dTr_plant_0 : decode cTr_plant 0 = .ok (.aload_n 0, 1) := by decide +kernel
theorem dTr_plant_1 : decode cTr_plant 1 = .ok (.iload_n 1, 1) := by decide +kernel
theorem dTr_plant_2 : decode cTr_plant 2 = .ok (.putfield 9, 3) := by decide +kernel
theorem dTr_plant_5 : decode cTr_plant 5 = .ok (.aload_n 0, 1) := by decide +kernel
theorem dTr_plant_6 : decode cTr_plant 6 = .ok (.lload_n 2, 1) := by decide +kernel
theorem dTr_plant_7 : decode cTr_plant 7 = .ok (.putfield 15, 3) := by decide +kernel
theorem dTr_plant_10 : decode cTr_plant 10 = .ok (.aload_n 0, 1) := by decide +kernel
theorem dTr_plant_11 : decode cTr_plant 11 = .ok (.lload 4, 2) := by decide +kernel
theorem dTr_plant_13 : decode cTr_plant 13 = .ok (.putfield 19, 3) := by decide +kernel
theorem dTr_plant_16 : decode cTr_plant 16 = .ok (.return_, 1) := by decide +kernel
theorem dPa_clear_0 : decode cPa_clear 0 = .ok (.aload_n 0, 1) := by decide +kernel
theorem dPa_clear_1 : decode cPa_clear 1 = .ok (.iconst 0, 1) := by decide +kernel
theorem dPa_clear_2 : decode cPa_clear 2 = .ok (.putfield 15, 3) := by decide +kernel
theorem dPa_clear_5 : decode cPa_clear 5 = .ok (.return_, 1) := by decide +kernel
theorem dCh_clear_0 : decode cCh_clear 0 = .ok (.aload_n 0, 1) := by decide +kernel
theorem dCh_clear_1 : decode cCh_clear 1 = .ok (.iconst 0, 1) := by decide +kernel
theorem dCh_clear_2 : decode cCh_clear 2 = .ok (.putfield 22, 3) := by decide +kernel
theorem dCh_clear_5 : decode cCh_clear 5 = .ok (.aload_n 0, 1) := by decide +kernel
theorem dCh_clear_6 : decode cCh_clear 6 = .ok (.iconst 0, 1) := by decide +kernel
theorem dCh_clear_7 : decode cCh_clear 7 = .ok (.putfield 26, 3) := by decide +kernel
theorem dCh_clear_10 : decode cCh_clear 10 = .ok (.iconst 0, 1) := by decide +kernel
theorem dCh_clear_11 : decode cCh_clear 11 = .ok (.istore_n 1, 1) := by decide +kernel
theorem dCh_clear_12 : decode cCh_clear 12 = .ok (.iload_n 1, 1) := by decide +kernel
theorem dCh_clear_13 : decode cCh_clear 13 = .ok (.sipush 256, 3) := by decide +kernel
theorem dCh_clear_16 : decode cCh_clear 16 = .ok (.if_icmp .ge 16, 3) := by decide +kernel
theorem dCh_clear_19 : decode cCh_clear 19 = .ok (.aload_n 0, 1) := by decide +kernel
theorem dCh_clear_20 : decode cCh_clear 20 = .ok (.getfield 9, 3) := by decide +kernel
theorem dCh_clear_23 : decode cCh_clear 23 = .ok (.iload_n 1, 1) := by decide +kernel
theorem dCh_clear_24 : decode cCh_clear 24 = .ok (.iconst 0, 1) := by decide +kernel
theorem dCh_clear_25 : decode cCh_clear 25 = .ok (.bastore, 1) := by decide +kernel
theorem dCh_clear_26 : decode cCh_clear 26 = .ok (.iinc 1 1, 3) := by decide +kernel
theorem dCh_clear_29 : decode cCh_clear 29 = .ok (.goto (-17), 3) := by decide +kernel
theorem dCh_clear_32 : decode cCh_clear 32 = .ok (.return_, 1) := by decide +kernel
theorem dTr_leaves_0 : decode cTr_leaves 0 = .ok (.iconst 1, 1) := by decide +kernel
theorem dTr_leaves_1 : decode cTr_leaves 1 = .ok (.aload_n 0, 1) := by decide +kernel
theorem dTr_leaves_2 : decode cTr_leaves 2 = .ok (.getfield 9, 3) := by decide +kernel
theorem dTr_leaves_5 : decode cTr_leaves 5 = .ok (.ishl, 1) := by decide +kernel
theorem dTr_leaves_6 : decode cTr_leaves 6 = .ok (.ireturn, 1) := by decide +kernel
theorem dDe_init_0 : decode cDe_init 0 = .ok (.aload_n 0, 1) := by decide +kernel
theorem dDe_init_1 : decode cDe_init 1 = .ok (.invokespecial 3, 3) := by decide +kernel
theorem dDe_init_4 : decode cDe_init 4 = .ok (.aload_n 0, 1) := by decide +kernel
theorem dDe_init_5 : decode cDe_init 5 = .ok (.iconst 4, 1) := by decide +kernel
theorem dDe_init_6 : decode cDe_init 6 = .ok (.newarray .int, 2) := by decide +kernel
theorem dDe_init_8 : decode cDe_init 8 = .ok (.dup, 1) := by decide +kernel
theorem dDe_init_9 : decode cDe_init 9 = .ok (.iconst 0, 1) := by decide +kernel
theorem dDe_init_10 : decode cDe_init 10 = .ok (.iconst (-1), 1) := by decide +kernel
theorem dDe_init_11 : decode cDe_init 11 = .ok (.iastore, 1) := by decide +kernel
theorem dDe_init_12 : decode cDe_init 12 = .ok (.dup, 1) := by decide +kernel
theorem dDe_init_13 : decode cDe_init 13 = .ok (.iconst 1, 1) := by decide +kernel
theorem dDe_init_14 : decode cDe_init 14 = .ok (.iconst (-1), 1) := by decide +kernel
theorem dDe_init_15 : decode cDe_init 15 = .ok (.iastore, 1) := by decide +kernel
theorem dDe_init_16 : decode cDe_init 16 = .ok (.dup, 1) := by decide +kernel
theorem dDe_init_17 : decode cDe_init 17 = .ok (.iconst 2, 1) := by decide +kernel
theorem dDe_init_18 : decode cDe_init 18 = .ok (.iconst (-1), 1) := by decide +kernel
theorem dDe_init_19 : decode cDe_init 19 = .ok (.iastore, 1) := by decide +kernel
theorem dDe_init_20 : decode cDe_init 20 = .ok (.dup, 1) := by decide +kernel
theorem dDe_init_21 : decode cDe_init 21 = .ok (.iconst 3, 1) := by decide +kernel
theorem dDe_init_22 : decode cDe_init 22 = .ok (.iconst (-1), 1) := by decide +kernel
theorem dDe_init_23 : decode cDe_init 23 = .ok (.iastore, 1) := by decide +kernel
theorem dDe_init_24 : decode cDe_init 24 = .ok (.putfield 9, 3) := by decide +kernel
theorem dDe_init_27 : decode cDe_init 27 = .ok (.aload_n 0, 1) := by decide +kernel
theorem dDe_init_28 : decode cDe_init 28 = .ok (.iconst 4, 1) := by decide +kernel
theorem dDe_init_29 : decode cDe_init 29 = .ok (.newarray .long, 2) := by decide +kernel
theorem dDe_init_31 : decode cDe_init 31 = .ok (.putfield 15, 3) := by decide +kernel
theorem dDe_init_34 : decode cDe_init 34 = .ok (.aload_n 0, 1) := by decide +kernel
theorem dDe_init_35 : decode cDe_init 35 = .ok (.iconst 4, 1) := by decide +kernel
theorem dDe_init_36 : decode cDe_init 36 = .ok (.newarray .long, 2) := by decide +kernel
theorem dDe_init_38 : decode cDe_init 38 = .ok (.putfield 19, 3) := by decide +kernel
theorem dDe_init_41 : decode cDe_init 41 = .ok (.return_, 1) := by decide +kernel
theorem dTr_labelsEach_0 : decode cTr_labelsEach 0 = .ok (.aload_n 0, 1) := by decide +kernel
theorem dTr_labelsEach_1 : decode cTr_labelsEach 1 = .ok (.getfield 9, 3) := by decide +kernel
theorem dTr_labelsEach_4 : decode cTr_labelsEach 4 = .ok (.aload_n 0, 1) := by decide +kernel
theorem dTr_labelsEach_5 : decode cTr_labelsEach 5 = .ok (.getfield 9, 3) := by decide +kernel
theorem dTr_labelsEach_8 : decode cTr_labelsEach 8 = .ok (.iconst 1, 1) := by decide +kernel
theorem dTr_labelsEach_9 : decode cTr_labelsEach 9 = .ok (.iadd, 1) := by decide +kernel
theorem dTr_labelsEach_10 : decode cTr_labelsEach 10 = .ok (.imul, 1) := by decide +kernel
theorem dTr_labelsEach_11 : decode cTr_labelsEach 11 = .ok (.iconst 2, 1) := by decide +kernel
theorem dTr_labelsEach_12 : decode cTr_labelsEach 12 = .ok (.idiv, 1) := by decide +kernel
theorem dTr_labelsEach_13 : decode cTr_labelsEach 13 = .ok (.ireturn, 1) := by decide +kernel
theorem dCh_beginPeriod_0 : decode cCh_beginPeriod 0 = .ok (.aload_n 0, 1) := by decide +kernel
theorem dCh_beginPeriod_1 : decode cCh_beginPeriod 1 = .ok (.dup, 1) := by decide +kernel
theorem dCh_beginPeriod_2 : decode cCh_beginPeriod 2 = .ok (.getfield 22, 3) := by decide +kernel
theorem dCh_beginPeriod_5 : decode cCh_beginPeriod 5 = .ok (.iconst 1, 1) := by decide +kernel
theorem dCh_beginPeriod_6 : decode cCh_beginPeriod 6 = .ok (.iadd, 1) := by decide +kernel
theorem dCh_beginPeriod_7 : decode cCh_beginPeriod 7 = .ok (.putfield 22, 3) := by decide +kernel
theorem dCh_beginPeriod_10 : decode cCh_beginPeriod 10 = .ok (.aload_n 0, 1) := by decide +kernel
theorem dCh_beginPeriod_11 : decode cCh_beginPeriod 11 = .ok (.lload_n 1, 1) := by decide +kernel
theorem dCh_beginPeriod_12 : decode cCh_beginPeriod 12 = .ok (.putfield 29, 3) := by decide +kernel
theorem dCh_beginPeriod_15 : decode cCh_beginPeriod 15 = .ok (.aload_n 0, 1) := by decide +kernel
theorem dCh_beginPeriod_16 : decode cCh_beginPeriod 16 = .ok (.lload_n 3, 1) := by decide +kernel
theorem dCh_beginPeriod_17 : decode cCh_beginPeriod 17 = .ok (.putfield 33, 3) := by decide +kernel
theorem dCh_beginPeriod_20 : decode cCh_beginPeriod 20 = .ok (.return_, 1) := by decide +kernel
theorem dCo_find_0 : decode cCo_find 0 = .ok (.aload_n 1, 1) := by decide +kernel
theorem dCo_find_1 : decode cCo_find 1 = .ok (.invokevirtual 15, 3) := by decide +kernel
theorem dCo_find_4 : decode cCo_find 4 = .ok (.istore_n 3, 1) := by decide +kernel
theorem dCo_find_5 : decode cCo_find 5 = .ok (.aload_n 0, 1) := by decide +kernel
theorem dCo_find_6 : decode cCo_find 6 = .ok (.iload_n 3, 1) := by decide +kernel
theorem dCo_find_7 : decode cCo_find 7 = .ok (.aload_n 2, 1) := by decide +kernel
theorem dCo_find_8 : decode cCo_find 8 = .ok (.getfield 21, 3) := by decide +kernel
theorem dCo_find_11 : decode cCo_find 11 = .ok (.invokevirtual 26, 3) := by decide +kernel
theorem dCo_find_14 : decode cCo_find 14 = .ok (.aload_n 2, 1) := by decide +kernel
theorem dCo_find_15 : decode cCo_find 15 = .ok (.iconst 0, 1) := by decide +kernel
theorem dCo_find_16 : decode cCo_find 16 = .ok (.putfield 30, 3) := by decide +kernel
theorem dCo_find_19 : decode cCo_find 19 = .ok (.aload_n 0, 1) := by decide +kernel
theorem dCo_find_20 : decode cCo_find 20 = .ok (.getfield 9, 3) := by decide +kernel
theorem dCo_find_23 : decode cCo_find 23 = .ok (.iconst 1, 1) := by decide +kernel
theorem dCo_find_24 : decode cCo_find 24 = .ok (.baload, 1) := by decide +kernel
theorem dCo_find_25 : decode cCo_find 25 = .ok (.ifCond .ne 10, 3) := by decide +kernel
theorem dCo_find_28 : decode cCo_find 28 = .ok (.aload_n 2, 1) := by decide +kernel
theorem dCo_find_29 : decode cCo_find 29 = .ok (.iconst 0, 1) := by decide +kernel
theorem dCo_find_30 : decode cCo_find 30 = .ok (.iconst 0, 1) := by decide +kernel
theorem dCo_find_31 : decode cCo_find 31 = .ok (.invokevirtual 34, 3) := by decide +kernel
theorem dCo_find_34 : decode cCo_find 34 = .ok (.return_, 1) := by decide +kernel
theorem dCo_find_35 : decode cCo_find 35 = .ok (.iconst 1, 1) := by decide +kernel
theorem dCo_find_36 : decode cCo_find 36 = .ok (.istore 4, 2) := by decide +kernel
theorem dCo_find_38 : decode cCo_find 38 = .ok (.iload 4, 2) := by decide +kernel
theorem dCo_find_40 : decode cCo_find 40 = .ok (.iload_n 3, 1) := by decide +kernel
theorem dCo_find_41 : decode cCo_find 41 = .ok (.if_icmp .ge 61, 3) := by decide +kernel
theorem dCo_find_44 : decode cCo_find 44 = .ok (.aload_n 0, 1) := by decide +kernel
theorem dCo_find_45 : decode cCo_find 45 = .ok (.getfield 9, 3) := by decide +kernel
theorem dCo_find_48 : decode cCo_find 48 = .ok (.iload 4, 2) := by decide +kernel
theorem dCo_find_50 : decode cCo_find 50 = .ok (.baload, 1) := by decide +kernel
theorem dCo_find_51 : decode cCo_find 51 = .ok (.ifCond .eq 45, 3) := by decide +kernel
theorem dCo_find_54 : decode cCo_find 54 = .ok (.iload 4, 2) := by decide +kernel
theorem dCo_find_56 : decode cCo_find 56 = .ok (.iconst 1, 1) := by decide +kernel
theorem dCo_find_57 : decode cCo_find 57 = .ok (.if_icmp .eq 15, 3) := by decide +kernel
theorem dCo_find_60 : decode cCo_find 60 = .ok (.aload_n 0, 1) := by decide +kernel
theorem dCo_find_61 : decode cCo_find 61 = .ok (.getfield 9, 3) := by decide +kernel
theorem dCo_find_64 : decode cCo_find 64 = .ok (.iload 4, 2) := by decide +kernel
theorem dCo_find_66 : decode cCo_find 66 = .ok (.iconst 1, 1) := by decide +kernel
theorem dCo_find_67 : decode cCo_find 67 = .ok (.ixor, 1) := by decide +kernel
theorem dCo_find_68 : decode cCo_find 68 = .ok (.baload, 1) := by decide +kernel
theorem dCo_find_69 : decode cCo_find 69 = .ok (.ifCond .eq 27, 3) := by decide +kernel
theorem dCo_find_72 : decode cCo_find 72 = .ok (.aload_n 0, 1) := by decide +kernel
theorem dCo_find_73 : decode cCo_find 73 = .ok (.iload 4, 2) := by decide +kernel
theorem dCo_find_75 : decode cCo_find 75 = .ok (.iload_n 3, 1) := by decide +kernel
theorem dCo_find_76 : decode cCo_find 76 = .ok (.invokevirtual 38, 3) := by decide +kernel
theorem dCo_find_79 : decode cCo_find 79 = .ok (.istore 5, 2) := by decide +kernel
theorem dCo_find_81 : decode cCo_find 81 = .ok (.iload 5, 2) := by decide +kernel
theorem dCo_find_83 : decode cCo_find 83 = .ok (.iload 4, 2) := by decide +kernel
theorem dCo_find_85 : decode cCo_find 85 = .ok (.if_icmp .eq 11, 3) := by decide +kernel
theorem dCo_find_88 : decode cCo_find 88 = .ok (.aload_n 2, 1) := by decide +kernel
theorem dCo_find_89 : decode cCo_find 89 = .ok (.iload 4, 2) := by decide +kernel
theorem dCo_find_91 : decode cCo_find 91 = .ok (.iload 5, 2) := by decide +kernel
theorem dCo_find_93 : decode cCo_find 93 = .ok (.invokevirtual 34, 3) := by decide +kernel
theorem dCo_find_96 : decode cCo_find 96 = .ok (.iinc 4 1, 3) := by decide +kernel
theorem dCo_find_99 : decode cCo_find 99 = .ok (.goto (-61), 3) := by decide +kernel
theorem dCo_find_102 : decode cCo_find 102 = .ok (.return_, 1) := by decide +kernel
theorem dCo_markNodes_0 : decode cCo_markNodes 0 = .ok (.iconst 0, 1) := by decide +kernel
theorem dCo_markNodes_1 : decode cCo_markNodes 1 = .ok (.istore_n 3, 1) := by decide +kernel
theorem dCo_markNodes_2 : decode cCo_markNodes 2 = .ok (.iload_n 3, 1) := by decide +kernel
theorem dCo_markNodes_3 : decode cCo_markNodes 3 = .ok (.iload_n 1, 1) := by decide +kernel
theorem dCo_markNodes_4 : decode cCo_markNodes 4 = .ok (.if_icmp .ge 28, 3) := by decide +kernel
theorem dCo_markNodes_7 : decode cCo_markNodes 7 = .ok (.aload_n 0, 1) := by decide +kernel
theorem dCo_markNodes_8 : decode cCo_markNodes 8 = .ok (.getfield 9, 3) := by decide +kernel
theorem dCo_markNodes_11 : decode cCo_markNodes 11 = .ok (.iload_n 1, 1) := by decide +kernel
theorem dCo_markNodes_12 : decode cCo_markNodes 12 = .ok (.iload_n 3, 1) := by decide +kernel
theorem dCo_markNodes_13 : decode cCo_markNodes 13 = .ok (.iadd, 1) := by decide +kernel
theorem dCo_markNodes_14 : decode cCo_markNodes 14 = .ok (.aload_n 2, 1) := by decide +kernel
theorem dCo_markNodes_15 : decode cCo_markNodes 15 = .ok (.iload_n 3, 1) := by decide +kernel
theorem dCo_markNodes_16 : decode cCo_markNodes 16 = .ok (.baload, 1) := by decide +kernel
theorem dCo_markNodes_17 : decode cCo_markNodes 17 = .ok (.ifCond .ne 7, 3) := by decide +kernel
theorem dCo_markNodes_20 : decode cCo_markNodes 20 = .ok (.iconst 1, 1) := by decide +kernel
theorem dCo_markNodes_21 : decode cCo_markNodes 21 = .ok (.goto 4, 3) := by decide +kernel
theorem dCo_markNodes_24 : decode cCo_markNodes 24 = .ok (.iconst 0, 1) := by decide +kernel
theorem dCo_markNodes_25 : decode cCo_markNodes 25 = .ok (.bastore, 1) := by decide +kernel
theorem dCo_markNodes_26 : decode cCo_markNodes 26 = .ok (.iinc 3 1, 3) := by decide +kernel
theorem dCo_markNodes_29 : decode cCo_markNodes 29 = .ok (.goto (-27), 3) := by decide +kernel
theorem dCo_markNodes_32 : decode cCo_markNodes 32 = .ok (.iload_n 1, 1) := by decide +kernel
theorem dCo_markNodes_33 : decode cCo_markNodes 33 = .ok (.iconst 1, 1) := by decide +kernel
theorem dCo_markNodes_34 : decode cCo_markNodes 34 = .ok (.isub, 1) := by decide +kernel
theorem dCo_markNodes_35 : decode cCo_markNodes 35 = .ok (.istore_n 3, 1) := by decide +kernel
theorem dCo_markNodes_36 : decode cCo_markNodes 36 = .ok (.iload_n 3, 1) := by decide +kernel
theorem dCo_markNodes_37 : decode cCo_markNodes 37 = .ok (.iconst 1, 1) := by decide +kernel
theorem dCo_markNodes_38 : decode cCo_markNodes 38 = .ok (.if_icmp .lt 44, 3) := by decide +kernel
theorem dCo_markNodes_41 : decode cCo_markNodes 41 = .ok (.aload_n 0, 1) := by decide +kernel
theorem dCo_markNodes_42 : decode cCo_markNodes 42 = .ok (.getfield 9, 3) := by decide +kernel
theorem dCo_markNodes_45 : decode cCo_markNodes 45 = .ok (.iload_n 3, 1) := by decide +kernel
theorem dCo_markNodes_46 : decode cCo_markNodes 46 = .ok (.aload_n 0, 1) := by decide +kernel
theorem dCo_markNodes_47 : decode cCo_markNodes 47 = .ok (.getfield 9, 3) := by decide +kernel
theorem dCo_markNodes_50 : decode cCo_markNodes 50 = .ok (.iconst 2, 1) := by decide +kernel
theorem dCo_markNodes_51 : decode cCo_markNodes 51 = .ok (.iload_n 3, 1) := by decide +kernel
theorem dCo_markNodes_52 : decode cCo_markNodes 52 = .ok (.imul, 1) := by decide +kernel
theorem dCo_markNodes_53 : decode cCo_markNodes 53 = .ok (.baload, 1) := by decide +kernel
theorem dCo_markNodes_54 : decode cCo_markNodes 54 = .ok (.ifCond .ne 16, 3) := by decide +kernel
theorem dCo_markNodes_57 : decode cCo_markNodes 57 = .ok (.aload_n 0, 1) := by decide +kernel
theorem dCo_markNodes_58 : decode cCo_markNodes 58 = .ok (.getfield 9, 3) := by decide +kernel
theorem dCo_markNodes_61 : decode cCo_markNodes 61 = .ok (.iconst 2, 1) := by decide +kernel
theorem dCo_markNodes_62 : decode cCo_markNodes 62 = .ok (.iload_n 3, 1) := by decide +kernel
theorem dCo_markNodes_63 : decode cCo_markNodes 63 = .ok (.imul, 1) := by decide +kernel
theorem dCo_markNodes_64 : decode cCo_markNodes 64 = .ok (.iconst 1, 1) := by decide +kernel
theorem dCo_markNodes_65 : decode cCo_markNodes 65 = .ok (.iadd, 1) := by decide +kernel
theorem dCo_markNodes_66 : decode cCo_markNodes 66 = .ok (.baload, 1) := by decide +kernel
theorem dCo_markNodes_67 : decode cCo_markNodes 67 = .ok (.ifCond .eq 7, 3) := by decide +kernel
theorem dCo_markNodes_70 : decode cCo_markNodes 70 = .ok (.iconst 1, 1) := by decide +kernel
theorem dCo_markNodes_71 : decode cCo_markNodes 71 = .ok (.goto 4, 3) := by decide +kernel
theorem dCo_markNodes_74 : decode cCo_markNodes 74 = .ok (.iconst 0, 1) := by decide +kernel
theorem dCo_markNodes_75 : decode cCo_markNodes 75 = .ok (.bastore, 1) := by decide +kernel
theorem dCo_markNodes_76 : decode cCo_markNodes 76 = .ok (.iinc 3 (-1), 3) := by decide +kernel
theorem dCo_markNodes_79 : decode cCo_markNodes 79 = .ok (.goto (-43), 3) := by decide +kernel
theorem dCo_markNodes_82 : decode cCo_markNodes 82 = .ok (.return_, 1) := by decide +kernel
theorem dCh_addSubset_0 : decode cCh_addSubset 0 = .ok (.aload_n 0, 1) := by decide +kernel
theorem dCh_addSubset_1 : decode cCh_addSubset 1 = .ok (.getfield 26, 3) := by decide +kernel
theorem dCh_addSubset_4 : decode cCh_addSubset 4 = .ok (.sipush 128, 3) := by decide +kernel
theorem dCh_addSubset_7 : decode cCh_addSubset 7 = .ok (.if_icmp .ge 33, 3) := by decide +kernel
theorem dCh_addSubset_10 : decode cCh_addSubset 10 = .ok (.aload_n 0, 1) := by decide +kernel
theorem dCh_addSubset_11 : decode cCh_addSubset 11 = .ok (.getfield 15, 3) := by decide +kernel
theorem dCh_addSubset_14 : decode cCh_addSubset 14 = .ok (.aload_n 0, 1) := by decide +kernel
theorem dCh_addSubset_15 : decode cCh_addSubset 15 = .ok (.getfield 26, 3) := by decide +kernel
theorem dCh_addSubset_18 : decode cCh_addSubset 18 = .ok (.iload_n 1, 1) := by decide +kernel
theorem dCh_addSubset_19 : decode cCh_addSubset 19 = .ok (.iastore, 1) := by decide +kernel
theorem dCh_addSubset_20 : decode cCh_addSubset 20 = .ok (.aload_n 0, 1) := by decide +kernel
theorem dCh_addSubset_21 : decode cCh_addSubset 21 = .ok (.getfield 19, 3) := by decide +kernel
theorem dCh_addSubset_24 : decode cCh_addSubset 24 = .ok (.aload_n 0, 1) := by decide +kernel
theorem dCh_addSubset_25 : decode cCh_addSubset 25 = .ok (.getfield 26, 3) := by decide +kernel
theorem dCh_addSubset_28 : decode cCh_addSubset 28 = .ok (.iload_n 2, 1) := by decide +kernel
theorem dCh_addSubset_29 : decode cCh_addSubset 29 = .ok (.iastore, 1) := by decide +kernel
theorem dCh_addSubset_30 : decode cCh_addSubset 30 = .ok (.aload_n 0, 1) := by decide +kernel
theorem dCh_addSubset_31 : decode cCh_addSubset 31 = .ok (.dup, 1) := by decide +kernel
theorem dCh_addSubset_32 : decode cCh_addSubset 32 = .ok (.getfield 26, 3) := by decide +kernel
theorem dCh_addSubset_35 : decode cCh_addSubset 35 = .ok (.iconst 1, 1) := by decide +kernel
theorem dCh_addSubset_36 : decode cCh_addSubset 36 = .ok (.iadd, 1) := by decide +kernel
theorem dCh_addSubset_37 : decode cCh_addSubset 37 = .ok (.putfield 26, 3) := by decide +kernel
theorem dCh_addSubset_40 : decode cCh_addSubset 40 = .ok (.return_, 1) := by decide +kernel
theorem dCo_lastBelow_0 : decode cCo_lastBelow 0 = .ok (.iload_n 1, 1) := by decide +kernel
theorem dCo_lastBelow_1 : decode cCo_lastBelow 1 = .ok (.istore_n 3, 1) := by decide +kernel
theorem dCo_lastBelow_2 : decode cCo_lastBelow 2 = .ok (.iconst 0, 1) := by decide +kernel
theorem dCo_lastBelow_3 : decode cCo_lastBelow 3 = .ok (.istore 4, 2) := by decide +kernel
theorem dCo_lastBelow_5 : decode cCo_lastBelow 5 = .ok (.iload 4, 2) := by decide +kernel
theorem dCo_lastBelow_7 : decode cCo_lastBelow 7 = .ok (.bipush 8, 2) := by decide +kernel
theorem dCo_lastBelow_9 : decode cCo_lastBelow 9 = .ok (.if_icmp .ge 62, 3) := by decide +kernel
theorem dCo_lastBelow_12 : decode cCo_lastBelow 12 = .ok (.iload_n 3, 1) := by decide +kernel
theorem dCo_lastBelow_13 : decode cCo_lastBelow 13 = .ok (.iload_n 2, 1) := by decide +kernel
theorem dCo_lastBelow_14 : decode cCo_lastBelow 14 = .ok (.if_icmp .ge 57, 3) := by decide +kernel
theorem dCo_lastBelow_17 : decode cCo_lastBelow 17 = .ok (.aload_n 0, 1) := by decide +kernel
theorem dCo_lastBelow_18 : decode cCo_lastBelow 18 = .ok (.getfield 9, 3) := by decide +kernel
theorem dCo_lastBelow_21 : decode cCo_lastBelow 21 = .ok (.iconst 2, 1) := by decide +kernel
theorem dCo_lastBelow_22 : decode cCo_lastBelow 22 = .ok (.iload_n 3, 1) := by decide +kernel
theorem dCo_lastBelow_23 : decode cCo_lastBelow 23 = .ok (.imul, 1) := by decide +kernel
theorem dCo_lastBelow_24 : decode cCo_lastBelow 24 = .ok (.baload, 1) := by decide +kernel
theorem dCo_lastBelow_25 : decode cCo_lastBelow 25 = .ok (.istore 5, 2) := by decide +kernel
theorem dCo_lastBelow_27 : decode cCo_lastBelow 27 = .ok (.aload_n 0, 1) := by decide +kernel
theorem dCo_lastBelow_28 : decode cCo_lastBelow 28 = .ok (.getfield 9, 3) := by decide +kernel
theorem dCo_lastBelow_31 : decode cCo_lastBelow 31 = .ok (.iconst 2, 1) := by decide +kernel
theorem dCo_lastBelow_32 : decode cCo_lastBelow 32 = .ok (.iload_n 3, 1) := by decide +kernel
theorem dCo_lastBelow_33 : decode cCo_lastBelow 33 = .ok (.imul, 1) := by decide +kernel
theorem dCo_lastBelow_34 : decode cCo_lastBelow 34 = .ok (.iconst 1, 1) := by decide +kernel
theorem dCo_lastBelow_35 : decode cCo_lastBelow 35 = .ok (.iadd, 1) := by decide +kernel
theorem dCo_lastBelow_36 : decode cCo_lastBelow 36 = .ok (.baload, 1) := by decide +kernel
theorem dCo_lastBelow_37 : decode cCo_lastBelow 37 = .ok (.istore 6, 2) := by decide +kernel
theorem dCo_lastBelow_39 : decode cCo_lastBelow 39 = .ok (.iload 5, 2) := by decide +kernel
theorem dCo_lastBelow_41 : decode cCo_lastBelow 41 = .ok (.iload 6, 2) := by decide +kernel
theorem dCo_lastBelow_43 : decode cCo_lastBelow 43 = .ok (.if_icmp .ne 5, 3) := by decide +kernel
theorem dCo_lastBelow_46 : decode cCo_lastBelow 46 = .ok (.iload_n 3, 1) := by decide +kernel
theorem dCo_lastBelow_47 : decode cCo_lastBelow 47 = .ok (.ireturn, 1) := by decide +kernel
theorem dCo_lastBelow_48 : decode cCo_lastBelow 48 = .ok (.iload 5, 2) := by decide +kernel
theorem dCo_lastBelow_50 : decode cCo_lastBelow 50 = .ok (.ifCond .eq 9, 3) := by decide +kernel
theorem dCo_lastBelow_53 : decode cCo_lastBelow 53 = .ok (.iconst 2, 1) := by decide +kernel
theorem dCo_lastBelow_54 : decode cCo_lastBelow 54 = .ok (.iload_n 3, 1) := by decide +kernel
theorem dCo_lastBelow_55 : decode cCo_lastBelow 55 = .ok (.imul, 1) := by decide +kernel
theorem dCo_lastBelow_56 : decode cCo_lastBelow 56 = .ok (.goto 8, 3) := by decide +kernel
theorem dCo_lastBelow_59 : decode cCo_lastBelow 59 = .ok (.iconst 2, 1) := by decide +kernel
theorem dCo_lastBelow_60 : decode cCo_lastBelow 60 = .ok (.iload_n 3, 1) := by decide +kernel
theorem dCo_lastBelow_61 : decode cCo_lastBelow 61 = .ok (.imul, 1) := by decide +kernel
theorem dCo_lastBelow_62 : decode cCo_lastBelow 62 = .ok (.iconst 1, 1) := by decide +kernel
theorem dCo_lastBelow_63 : decode cCo_lastBelow 63 = .ok (.iadd, 1) := by decide +kernel
theorem dCo_lastBelow_64 : decode cCo_lastBelow 64 = .ok (.istore_n 3, 1) := by decide +kernel
theorem dCo_lastBelow_65 : decode cCo_lastBelow 65 = .ok (.iinc 4 1, 3) := by decide +kernel
theorem dCo_lastBelow_68 : decode cCo_lastBelow 68 = .ok (.goto (-63), 3) := by decide +kernel
theorem dCo_lastBelow_71 : decode cCo_lastBelow 71 = .ok (.iload_n 3, 1) := by decide +kernel
theorem dCo_lastBelow_72 : decode cCo_lastBelow 72 = .ok (.ireturn, 1) := by decide +kernel
theorem dCh_packets_0 : decode cCh_packets 0 = .ok (.iconst 1, 1) := by decide +kernel
theorem dCh_packets_1 : decode cCh_packets 1 = .ok (.aload_n 0, 1) := by decide +kernel
theorem dCh_packets_2 : decode cCh_packets 2 = .ok (.getfield 26, 3) := by decide +kernel
theorem dCh_packets_5 : decode cCh_packets 5 = .ok (.bipush 8, 2) := by decide +kernel
theorem dCh_packets_7 : decode cCh_packets 7 = .ok (.iadd, 1) := by decide +kernel
theorem dCh_packets_8 : decode cCh_packets 8 = .ok (.iconst 1, 1) := by decide +kernel
theorem dCh_packets_9 : decode cCh_packets 9 = .ok (.isub, 1) := by decide +kernel
theorem dCh_packets_10 : decode cCh_packets 10 = .ok (.bipush 8, 2) := by decide +kernel
theorem dCh_packets_12 : decode cCh_packets 12 = .ok (.idiv, 1) := by decide +kernel
theorem dCh_packets_13 : decode cCh_packets 13 = .ok (.invokestatic 36, 3) := by decide +kernel
theorem dCh_packets_16 : decode cCh_packets 16 = .ok (.ireturn, 1) := by decide +kernel
theorem dPa_put_0 : decode cPa_put 0 = .ok (.iload_n 3, 1) := by decide +kernel
theorem dPa_put_1 : decode cPa_put 1 = .ok (.iconst 1, 1) := by decide +kernel
theorem dPa_put_2 : decode cPa_put 2 = .ok (.isub, 1) := by decide +kernel
theorem dPa_put_3 : decode cPa_put 3 = .ok (.istore 4, 2) := by decide +kernel
theorem dPa_put_5 : decode cPa_put 5 = .ok (.iload 4, 2) := by decide +kernel
theorem dPa_put_7 : decode cPa_put 7 = .ok (.ifCond .lt 52, 3) := by decide +kernel
theorem dPa_put_10 : decode cPa_put 10 = .ok (.aload_n 0, 1) := by decide +kernel
theorem dPa_put_11 : decode cPa_put 11 = .ok (.getfield 15, 3) := by decide +kernel
theorem dPa_put_14 : decode cPa_put 14 = .ok (.aload_n 0, 1) := by decide +kernel
theorem dPa_put_15 : decode cPa_put 15 = .ok (.getfield 9, 3) := by decide +kernel
theorem dPa_put_18 : decode cPa_put 18 = .ok (.arraylength, 1) := by decide +kernel
theorem dPa_put_19 : decode cPa_put 19 = .ok (.if_icmp .ge 40, 3) := by decide +kernel
theorem dPa_put_22 : decode cPa_put 22 = .ok (.aload_n 0, 1) := by decide +kernel
theorem dPa_put_23 : decode cPa_put 23 = .ok (.getfield 9, 3) := by decide +kernel
theorem dPa_put_26 : decode cPa_put 26 = .ok (.aload_n 0, 1) := by decide +kernel
theorem dPa_put_27 : decode cPa_put 27 = .ok (.getfield 15, 3) := by decide +kernel
theorem dPa_put_30 : decode cPa_put 30 = .ok (.lload_n 1, 1) := by decide +kernel
theorem dPa_put_31 : decode cPa_put 31 = .ok (.bipush 8, 2) := by decide +kernel
theorem dPa_put_33 : decode cPa_put 33 = .ok (.iload 4, 2) := by decide +kernel
theorem dPa_put_35 : decode cPa_put 35 = .ok (.imul, 1) := by decide +kernel
theorem dPa_put_36 : decode cPa_put 36 = .ok (.lushr, 1) := by decide +kernel
theorem dPa_put_37 : decode cPa_put 37 = .ok (.l2i, 1) := by decide +kernel
theorem dPa_put_38 : decode cPa_put 38 = .ok (.sipush 255, 3) := by decide +kernel
theorem dPa_put_41 : decode cPa_put 41 = .ok (.iand, 1) := by decide +kernel
theorem dPa_put_42 : decode cPa_put 42 = .ok (.iastore, 1) := by decide +kernel
theorem dPa_put_43 : decode cPa_put 43 = .ok (.aload_n 0, 1) := by decide +kernel
theorem dPa_put_44 : decode cPa_put 44 = .ok (.dup, 1) := by decide +kernel
theorem dPa_put_45 : decode cPa_put 45 = .ok (.getfield 15, 3) := by decide +kernel
theorem dPa_put_48 : decode cPa_put 48 = .ok (.iconst 1, 1) := by decide +kernel
theorem dPa_put_49 : decode cPa_put 49 = .ok (.iadd, 1) := by decide +kernel
theorem dPa_put_50 : decode cPa_put 50 = .ok (.putfield 15, 3) := by decide +kernel
theorem dPa_put_53 : decode cPa_put 53 = .ok (.iinc 4 (-1), 3) := by decide +kernel
theorem dPa_put_56 : decode cPa_put 56 = .ok (.goto (-51), 3) := by decide +kernel
theorem dPa_put_59 : decode cPa_put 59 = .ok (.return_, 1) := by decide +kernel
theorem dTr_findKey_0 : decode cTr_findKey 0 = .ok (.iload_n 2, 1) := by decide +kernel
theorem dTr_findKey_1 : decode cTr_findKey 1 = .ok (.ifCond .ne 24, 3) := by decide +kernel
theorem dTr_findKey_4 : decode cTr_findKey 4 = .ok (.aload_n 1, 1) := by decide +kernel
theorem dTr_findKey_5 : decode cTr_findKey 5 = .ok (.aload_n 0, 1) := by decide +kernel
theorem dTr_findKey_6 : decode cTr_findKey 6 = .ok (.getfield 15, 3) := by decide +kernel
theorem dTr_findKey_9 : decode cTr_findKey 9 = .ok (.aload_n 0, 1) := by decide +kernel
theorem dTr_findKey_10 : decode cTr_findKey 10 = .ok (.getfield 19, 3) := by decide +kernel
theorem dTr_findKey_13 : decode cTr_findKey 13 = .ok (.invokevirtual 41, 3) := by decide +kernel
theorem dTr_findKey_16 : decode cTr_findKey 16 = .ok (.aload_n 1, 1) := by decide +kernel
theorem dTr_findKey_17 : decode cTr_findKey 17 = .ok (.lconst 0, 1) := by decide +kernel
theorem dTr_findKey_18 : decode cTr_findKey 18 = .ok (.lconst 0, 1) := by decide +kernel
theorem dTr_findKey_19 : decode cTr_findKey 19 = .ok (.invokevirtual 47, 3) := by decide +kernel
theorem dTr_findKey_22 : decode cTr_findKey 22 = .ok (.goto 30, 3) := by decide +kernel
theorem dTr_findKey_25 : decode cTr_findKey 25 = .ok (.aload_n 0, 1) := by decide +kernel
theorem dTr_findKey_26 : decode cTr_findKey 26 = .ok (.aload_n 1, 1) := by decide +kernel
theorem dTr_findKey_27 : decode cTr_findKey 27 = .ok (.iload_n 2, 1) := by decide +kernel
theorem dTr_findKey_28 : decode cTr_findKey 28 = .ok (.iload_n 3, 1) := by decide +kernel
theorem dTr_findKey_29 : decode cTr_findKey 29 = .ok (.invokevirtual 56, 3) := by decide +kernel
theorem dTr_findKey_32 : decode cTr_findKey 32 = .ok (.aload_n 1, 1) := by decide +kernel
theorem dTr_findKey_33 : decode cTr_findKey 33 = .ok (.aload_n 1, 1) := by decide +kernel
theorem dTr_findKey_34 : decode cTr_findKey 34 = .ok (.getfield 50, 3) := by decide +kernel
theorem dTr_findKey_37 : decode cTr_findKey 37 = .ok (.aload_n 1, 1) := by decide +kernel
theorem dTr_findKey_38 : decode cTr_findKey 38 = .ok (.getfield 53, 3) := by decide +kernel
theorem dTr_findKey_41 : decode cTr_findKey 41 = .ok (.invokevirtual 41, 3) := by decide +kernel
theorem dTr_findKey_44 : decode cTr_findKey 44 = .ok (.aload_n 1, 1) := by decide +kernel
theorem dTr_findKey_45 : decode cTr_findKey 45 = .ok (.lconst 0, 1) := by decide +kernel
theorem dTr_findKey_46 : decode cTr_findKey 46 = .ok (.ldc2_w 60, 3) := by decide +kernel
theorem dTr_findKey_49 : decode cTr_findKey 49 = .ok (.invokevirtual 47, 3) := by decide +kernel
theorem dTr_findKey_52 : decode cTr_findKey 52 = .ok (.return_, 1) := by decide +kernel
theorem dTr_findLabel_0 : decode cTr_findLabel 0 = .ok (.aload_n 1, 1) := by decide +kernel
theorem dTr_findLabel_1 : decode cTr_findLabel 1 = .ok (.aload_n 0, 1) := by decide +kernel
theorem dTr_findLabel_2 : decode cTr_findLabel 2 = .ok (.getfield 15, 3) := by decide +kernel
theorem dTr_findLabel_5 : decode cTr_findLabel 5 = .ok (.aload_n 0, 1) := by decide +kernel
theorem dTr_findLabel_6 : decode cTr_findLabel 6 = .ok (.getfield 19, 3) := by decide +kernel
theorem dTr_findLabel_9 : decode cTr_findLabel 9 = .ok (.invokevirtual 41, 3) := by decide +kernel
theorem dTr_findLabel_12 : decode cTr_findLabel 12 = .ok (.aload_n 1, 1) := by decide +kernel
theorem dTr_findLabel_13 : decode cTr_findLabel 13 = .ok (.lconst 0, 1) := by decide +kernel
theorem dTr_findLabel_14 : decode cTr_findLabel 14 = .ok (.iload_n 2, 1) := by decide +kernel
theorem dTr_findLabel_15 : decode cTr_findLabel 15 = .ok (.i2l, 1) := by decide +kernel
theorem dTr_findLabel_16 : decode cTr_findLabel 16 = .ok (.invokevirtual 47, 3) := by decide +kernel
theorem dTr_findLabel_19 : decode cTr_findLabel 19 = .ok (.iload_n 3, 1) := by decide +kernel
theorem dTr_findLabel_20 : decode cTr_findLabel 20 = .ok (.iload_n 2, 1) := by decide +kernel
theorem dTr_findLabel_21 : decode cTr_findLabel 21 = .ok (.invokestatic 26, 3) := by decide +kernel
theorem dTr_findLabel_24 : decode cTr_findLabel 24 = .ok (.iconst 1, 1) := by decide +kernel
theorem dTr_findLabel_25 : decode cTr_findLabel 25 = .ok (.isub, 1) := by decide +kernel
theorem dTr_findLabel_26 : decode cTr_findLabel 26 = .ok (.istore 4, 2) := by decide +kernel
theorem dTr_findLabel_28 : decode cTr_findLabel 28 = .ok (.iload 4, 2) := by decide +kernel
theorem dTr_findLabel_30 : decode cTr_findLabel 30 = .ok (.ifCond .lt 35, 3) := by decide +kernel
theorem dTr_findLabel_33 : decode cTr_findLabel 33 = .ok (.aload_n 1, 1) := by decide +kernel
theorem dTr_findLabel_34 : decode cTr_findLabel 34 = .ok (.aload_n 1, 1) := by decide +kernel
theorem dTr_findLabel_35 : decode cTr_findLabel 35 = .ok (.getfield 50, 3) := by decide +kernel
theorem dTr_findLabel_38 : decode cTr_findLabel 38 = .ok (.aload_n 1, 1) := by decide +kernel
theorem dTr_findLabel_39 : decode cTr_findLabel 39 = .ok (.getfield 53, 3) := by decide +kernel
theorem dTr_findLabel_42 : decode cTr_findLabel 42 = .ok (.invokevirtual 41, 3) := by decide +kernel
theorem dTr_findLabel_45 : decode cTr_findLabel 45 = .ok (.aload_n 1, 1) := by decide +kernel
theorem dTr_findLabel_46 : decode cTr_findLabel 46 = .ok (.lconst 0, 1) := by decide +kernel
theorem dTr_findLabel_47 : decode cTr_findLabel 47 = .ok (.iconst 1, 1) := by decide +kernel
theorem dTr_findLabel_48 : decode cTr_findLabel 48 = .ok (.iload_n 3, 1) := by decide +kernel
theorem dTr_findLabel_49 : decode cTr_findLabel 49 = .ok (.iload 4, 2) := by decide +kernel
theorem dTr_findLabel_51 : decode cTr_findLabel 51 = .ok (.ishr, 1) := by decide +kernel
theorem dTr_findLabel_52 : decode cTr_findLabel 52 = .ok (.iconst 1, 1) := by decide +kernel
theorem dTr_findLabel_53 : decode cTr_findLabel 53 = .ok (.iand, 1) := by decide +kernel
theorem dTr_findLabel_54 : decode cTr_findLabel 54 = .ok (.iadd, 1) := by decide +kernel
theorem dTr_findLabel_55 : decode cTr_findLabel 55 = .ok (.i2l, 1) := by decide +kernel
theorem dTr_findLabel_56 : decode cTr_findLabel 56 = .ok (.invokevirtual 47, 3) := by decide +kernel
theorem dTr_findLabel_59 : decode cTr_findLabel 59 = .ok (.iinc 4 (-1), 3) := by decide +kernel
theorem dTr_findLabel_62 : decode cTr_findLabel 62 = .ok (.goto (-34), 3) := by decide +kernel
theorem dTr_findLabel_65 : decode cTr_findLabel 65 = .ok (.return_, 1) := by decide +kernel
theorem dTr_levelsBelow_0 : decode cTr_levelsBelow 0 = .ok (.iconst 0, 1) := by decide +kernel
theorem dTr_levelsBelow_1 : decode cTr_levelsBelow 1 = .ok (.istore_n 2, 1) := by decide +kernel
theorem dTr_levelsBelow_2 : decode cTr_levelsBelow 2 = .ok (.iload_n 2, 1) := by decide +kernel
theorem dTr_levelsBelow_3 : decode cTr_levelsBelow 3 = .ok (.bipush 8, 2) := by decide +kernel
theorem dTr_levelsBelow_5 : decode cTr_levelsBelow 5 = .ok (.if_icmp .gt 18, 3) := by decide +kernel
theorem dTr_levelsBelow_8 : decode cTr_levelsBelow 8 = .ok (.iload_n 0, 1) := by decide +kernel
theorem dTr_levelsBelow_9 : decode cTr_levelsBelow 9 = .ok (.iload_n 2, 1) := by decide +kernel
theorem dTr_levelsBelow_10 : decode cTr_levelsBelow 10 = .ok (.ishr, 1) := by decide +kernel
theorem dTr_levelsBelow_11 : decode cTr_levelsBelow 11 = .ok (.iload_n 1, 1) := by decide +kernel
theorem dTr_levelsBelow_12 : decode cTr_levelsBelow 12 = .ok (.if_icmp .ne 5, 3) := by decide +kernel
theorem dTr_levelsBelow_15 : decode cTr_levelsBelow 15 = .ok (.iload_n 2, 1) := by decide +kernel
theorem dTr_levelsBelow_16 : decode cTr_levelsBelow 16 = .ok (.ireturn, 1) := by decide +kernel
theorem dTr_levelsBelow_17 : decode cTr_levelsBelow 17 = .ok (.iinc 2 1, 3) := by decide +kernel
theorem dTr_levelsBelow_20 : decode cTr_levelsBelow 20 = .ok (.goto (-18), 3) := by decide +kernel
theorem dTr_levelsBelow_23 : decode cTr_levelsBelow 23 = .ok (.iconst (-1), 1) := by decide +kernel
theorem dTr_levelsBelow_24 : decode cTr_levelsBelow 24 = .ok (.ireturn, 1) := by decide +kernel
theorem dEn_wrap_0 : decode cEn_wrap 0 = .ok (.aload_n 0, 1) := by decide +kernel
theorem dEn_wrap_1 : decode cEn_wrap 1 = .ok (.ldc2_w 9, 3) := by decide +kernel
theorem dEn_wrap_4 : decode cEn_wrap 4 = .ok (.putfield 11, 3) := by decide +kernel
theorem dEn_wrap_7 : decode cEn_wrap 7 = .ok (.aload_n 0, 1) := by decide +kernel
theorem dEn_wrap_8 : decode cEn_wrap 8 = .ok (.lload_n 2, 1) := by decide +kernel
theorem dEn_wrap_9 : decode cEn_wrap 9 = .ok (.putfield 15, 3) := by decide +kernel
theorem dEn_wrap_12 : decode cEn_wrap 12 = .ok (.aload_n 0, 1) := by decide +kernel
theorem dEn_wrap_13 : decode cEn_wrap 13 = .ok (.lload 4, 2) := by decide +kernel
theorem dEn_wrap_15 : decode cEn_wrap 15 = .ok (.putfield 18, 3) := by decide +kernel
theorem dEn_wrap_18 : decode cEn_wrap 18 = .ok (.iconst 1, 1) := by decide +kernel
theorem dEn_wrap_19 : decode cEn_wrap 19 = .ok (.istore 6, 2) := by decide +kernel
theorem dEn_wrap_21 : decode cEn_wrap 21 = .ok (.iload 6, 2) := by decide +kernel
theorem dEn_wrap_23 : decode cEn_wrap 23 = .ok (.bipush 12, 2) := by decide +kernel
theorem dEn_wrap_25 : decode cEn_wrap 25 = .ok (.if_icmp .gt 58, 3) := by decide +kernel
theorem dEn_wrap_28 : decode cEn_wrap 28 = .ok (.aload_n 1, 1) := by decide +kernel
theorem dEn_wrap_29 : decode cEn_wrap 29 = .ok (.aload_n 0, 1) := by decide +kernel
theorem dEn_wrap_30 : decode cEn_wrap 30 = .ok (.getfield 11, 3) := by decide +kernel
theorem dEn_wrap_33 : decode cEn_wrap 33 = .ok (.iload 6, 2) := by decide +kernel
theorem dEn_wrap_35 : decode cEn_wrap 35 = .ok (.iconst 2, 1) := by decide +kernel
theorem dEn_wrap_36 : decode cEn_wrap 36 = .ok (.irem, 1) := by decide +kernel
theorem dEn_wrap_37 : decode cEn_wrap 37 = .ok (.iconst 1, 1) := by decide +kernel
theorem dEn_wrap_38 : decode cEn_wrap 38 = .ok (.if_icmp .ne 10, 3) := by decide +kernel
theorem dEn_wrap_41 : decode cEn_wrap 41 = .ok (.aload_n 0, 1) := by decide +kernel
theorem dEn_wrap_42 : decode cEn_wrap 42 = .ok (.getfield 15, 3) := by decide +kernel
theorem dEn_wrap_45 : decode cEn_wrap 45 = .ok (.goto 7, 3) := by decide +kernel
theorem dEn_wrap_48 : decode cEn_wrap 48 = .ok (.aload_n 0, 1) := by decide +kernel
theorem dEn_wrap_49 : decode cEn_wrap 49 = .ok (.getfield 18, 3) := by decide +kernel
theorem dEn_wrap_52 : decode cEn_wrap 52 = .ok (.invokevirtual 21, 3) := by decide +kernel
theorem dEn_wrap_55 : decode cEn_wrap 55 = .ok (.aload_n 0, 1) := by decide +kernel
theorem dEn_wrap_56 : decode cEn_wrap 56 = .ok (.aload_n 1, 1) := by decide +kernel
theorem dEn_wrap_57 : decode cEn_wrap 57 = .ok (.getfield 27, 3) := by decide +kernel
theorem dEn_wrap_60 : decode cEn_wrap 60 = .ok (.iload 6, 2) := by decide +kernel
theorem dEn_wrap_62 : decode cEn_wrap 62 = .ok (.i2l, 1) := by decide +kernel
theorem dEn_wrap_63 : decode cEn_wrap 63 = .ok (.lxor, 1) := by decide +kernel
theorem dEn_wrap_64 : decode cEn_wrap 64 = .ok (.putfield 11, 3) := by decide +kernel
theorem dEn_wrap_67 : decode cEn_wrap 67 = .ok (.aload_n 0, 1) := by decide +kernel
theorem dEn_wrap_68 : decode cEn_wrap 68 = .ok (.iload 6, 2) := by decide +kernel
theorem dEn_wrap_70 : decode cEn_wrap 70 = .ok (.aload_n 1, 1) := by decide +kernel
theorem dEn_wrap_71 : decode cEn_wrap 71 = .ok (.getfield 28, 3) := by decide +kernel
theorem dEn_wrap_74 : decode cEn_wrap 74 = .ok (.invokevirtual 29, 3) := by decide +kernel
theorem dEn_wrap_77 : decode cEn_wrap 77 = .ok (.iinc 6 1, 3) := by decide +kernel
theorem dEn_wrap_80 : decode cEn_wrap 80 = .ok (.goto (-59), 3) := by decide +kernel
theorem dEn_wrap_83 : decode cEn_wrap 83 = .ok (.return_, 1) := by decide +kernel
theorem dEn_keepHalf_0 : decode cEn_keepHalf 0 = .ok (.iload_n 1, 1) := by decide +kernel
theorem dEn_keepHalf_1 : decode cEn_keepHalf 1 = .ok (.iconst 2, 1) := by decide +kernel
theorem dEn_keepHalf_2 : decode cEn_keepHalf 2 = .ok (.irem, 1) := by decide +kernel
theorem dEn_keepHalf_3 : decode cEn_keepHalf 3 = .ok (.iconst 1, 1) := by decide +kernel
theorem dEn_keepHalf_4 : decode cEn_keepHalf 4 = .ok (.if_icmp .ne 11, 3) := by decide +kernel
theorem dEn_keepHalf_7 : decode cEn_keepHalf 7 = .ok (.aload_n 0, 1) := by decide +kernel
theorem dEn_keepHalf_8 : decode cEn_keepHalf 8 = .ok (.lload_n 2, 1) := by decide +kernel
theorem dEn_keepHalf_9 : decode cEn_keepHalf 9 = .ok (.putfield 15, 3) := by decide +kernel
theorem dEn_keepHalf_12 : decode cEn_keepHalf 12 = .ok (.goto 8, 3) := by decide +kernel
theorem dEn_keepHalf_15 : decode cEn_keepHalf 15 = .ok (.aload_n 0, 1) := by decide +kernel
theorem dEn_keepHalf_16 : decode cEn_keepHalf 16 = .ok (.lload_n 2, 1) := by decide +kernel
theorem dEn_keepHalf_17 : decode cEn_keepHalf 17 = .ok (.putfield 18, 3) := by decide +kernel
theorem dEn_keepHalf_20 : decode cEn_keepHalf 20 = .ok (.return_, 1) := by decide +kernel
theorem dPa_read_0 : decode cPa_read 0 = .ok (.lconst 0, 1) := by decide +kernel
theorem dPa_read_1 : decode cPa_read 1 = .ok (.lstore_n 3, 1) := by decide +kernel
theorem dPa_read_2 : decode cPa_read 2 = .ok (.iload_n 1, 1) := by decide +kernel
theorem dPa_read_3 : decode cPa_read 3 = .ok (.istore 5, 2) := by decide +kernel
theorem dPa_read_5 : decode cPa_read 5 = .ok (.iload 5, 2) := by decide +kernel
theorem dPa_read_7 : decode cPa_read 7 = .ok (.iload_n 1, 1) := by decide +kernel
theorem dPa_read_8 : decode cPa_read 8 = .ok (.iload_n 2, 1) := by decide +kernel
theorem dPa_read_9 : decode cPa_read 9 = .ok (.iadd, 1) := by decide +kernel
theorem dPa_read_10 : decode cPa_read 10 = .ok (.if_icmp .ge 32, 3) := by decide +kernel
theorem dPa_read_13 : decode cPa_read 13 = .ok (.iload 5, 2) := by decide +kernel
theorem dPa_read_15 : decode cPa_read 15 = .ok (.aload_n 0, 1) := by decide +kernel
theorem dPa_read_16 : decode cPa_read 16 = .ok (.getfield 15, 3) := by decide +kernel
theorem dPa_read_19 : decode cPa_read 19 = .ok (.if_icmp .ge 23, 3) := by decide +kernel
theorem dPa_read_22 : decode cPa_read 22 = .ok (.lload_n 3, 1) := by decide +kernel
theorem dPa_read_23 : decode cPa_read 23 = .ok (.bipush 8, 2) := by decide +kernel
theorem dPa_read_25 : decode cPa_read 25 = .ok (.lshl, 1) := by decide +kernel
theorem dPa_read_26 : decode cPa_read 26 = .ok (.aload_n 0, 1) := by decide +kernel
theorem dPa_read_27 : decode cPa_read 27 = .ok (.getfield 9, 3) := by decide +kernel
theorem dPa_read_30 : decode cPa_read 30 = .ok (.iload 5, 2) := by decide +kernel
theorem dPa_read_32 : decode cPa_read 32 = .ok (.iaload, 1) := by decide +kernel
theorem dPa_read_33 : decode cPa_read 33 = .ok (.i2l, 1) := by decide +kernel
theorem dPa_read_34 : decode cPa_read 34 = .ok (.lor, 1) := by decide +kernel
theorem dPa_read_35 : decode cPa_read 35 = .ok (.lstore_n 3, 1) := by decide +kernel
theorem dPa_read_36 : decode cPa_read 36 = .ok (.iinc 5 1, 3) := by decide +kernel
theorem dPa_read_39 : decode cPa_read 39 = .ok (.goto (-34), 3) := by decide +kernel
theorem dPa_read_42 : decode cPa_read 42 = .ok (.lload_n 3, 1) := by decide +kernel
theorem dPa_read_43 : decode cPa_read 43 = .ok (.lreturn, 1) := by decide +kernel
theorem dTr_derives_0 : decode cTr_derives 0 = .ok (.aload_n 0, 1) := by decide +kernel
theorem dTr_derives_1 : decode cTr_derives 1 = .ok (.iload_n 2, 1) := by decide +kernel
theorem dTr_derives_2 : decode cTr_derives 2 = .ok (.iload_n 3, 1) := by decide +kernel
theorem dTr_derives_3 : decode cTr_derives 3 = .ok (.invokevirtual 30, 3) := by decide +kernel
theorem dTr_derives_6 : decode cTr_derives 6 = .ok (.ifCond .ne 5, 3) := by decide +kernel
theorem dTr_derives_9 : decode cTr_derives 9 = .ok (.iconst 0, 1) := by decide +kernel
theorem dTr_derives_10 : decode cTr_derives 10 = .ok (.ireturn, 1) := by decide +kernel
theorem dTr_derives_11 : decode cTr_derives 11 = .ok (.aload_n 0, 1) := by decide +kernel
theorem dTr_derives_12 : decode cTr_derives 12 = .ok (.invokevirtual 22, 3) := by decide +kernel
theorem dTr_derives_15 : decode cTr_derives 15 = .ok (.iload_n 1, 1) := by decide +kernel
theorem dTr_derives_16 : decode cTr_derives 16 = .ok (.iadd, 1) := by decide +kernel
theorem dTr_derives_17 : decode cTr_derives 17 = .ok (.istore 4, 2) := by decide +kernel
theorem dTr_derives_19 : decode cTr_derives 19 = .ok (.iload_n 2, 1) := by decide +kernel
theorem dTr_derives_20 : decode cTr_derives 20 = .ok (.ifCond .eq 23, 3) := by decide +kernel
theorem dTr_derives_23 : decode cTr_derives 23 = .ok (.iload 4, 2) := by decide +kernel
theorem dTr_derives_25 : decode cTr_derives 25 = .ok (.iload_n 2, 1) := by decide +kernel
theorem dTr_derives_26 : decode cTr_derives 26 = .ok (.invokestatic 26, 3) := by decide +kernel
theorem dTr_derives_29 : decode cTr_derives 29 = .ok (.iconst 1, 1) := by decide +kernel
theorem dTr_derives_30 : decode cTr_derives 30 = .ok (.if_icmp .lt 17, 3) := by decide +kernel
theorem dTr_derives_33 : decode cTr_derives 33 = .ok (.iload 4, 2) := by decide +kernel
theorem dTr_derives_35 : decode cTr_derives 35 = .ok (.iload_n 3, 1) := by decide +kernel
theorem dTr_derives_36 : decode cTr_derives 36 = .ok (.invokestatic 26, 3) := by decide +kernel
theorem dTr_derives_39 : decode cTr_derives 39 = .ok (.iconst (-1), 1) := by decide +kernel
theorem dTr_derives_40 : decode cTr_derives 40 = .ok (.if_icmp .ne 7, 3) := by decide +kernel
theorem dTr_derives_43 : decode cTr_derives 43 = .ok (.iconst 1, 1) := by decide +kernel
theorem dTr_derives_44 : decode cTr_derives 44 = .ok (.goto 4, 3) := by decide +kernel
theorem dTr_derives_47 : decode cTr_derives 47 = .ok (.iconst 0, 1) := by decide +kernel
theorem dTr_derives_48 : decode cTr_derives 48 = .ok (.ireturn, 1) := by decide +kernel
theorem dTr_isSubset_0 : decode cTr_isSubset 0 = .ok (.iload_n 1, 1) := by decide +kernel
theorem dTr_isSubset_1 : decode cTr_isSubset 1 = .ok (.ifCond .ne 9, 3) := by decide +kernel
theorem dTr_isSubset_4 : decode cTr_isSubset 4 = .ok (.iload_n 2, 1) := by decide +kernel
theorem dTr_isSubset_5 : decode cTr_isSubset 5 = .ok (.ifCond .ne 5, 3) := by decide +kernel
theorem dTr_isSubset_8 : decode cTr_isSubset 8 = .ok (.iconst 1, 1) := by decide +kernel
theorem dTr_isSubset_9 : decode cTr_isSubset 9 = .ok (.ireturn, 1) := by decide +kernel
theorem dTr_isSubset_10 : decode cTr_isSubset 10 = .ok (.iload_n 1, 1) := by decide +kernel
theorem dTr_isSubset_11 : decode cTr_isSubset 11 = .ok (.iconst 1, 1) := by decide +kernel
theorem dTr_isSubset_12 : decode cTr_isSubset 12 = .ok (.if_icmp .lt 26, 3) := by decide +kernel
theorem dTr_isSubset_15 : decode cTr_isSubset 15 = .ok (.iload_n 2, 1) := by decide +kernel
theorem dTr_isSubset_16 : decode cTr_isSubset 16 = .ok (.iconst 2, 1) := by decide +kernel
theorem dTr_isSubset_17 : decode cTr_isSubset 17 = .ok (.aload_n 0, 1) := by decide +kernel
theorem dTr_isSubset_18 : decode cTr_isSubset 18 = .ok (.invokevirtual 22, 3) := by decide +kernel
theorem dTr_isSubset_21 : decode cTr_isSubset 21 = .ok (.imul, 1) := by decide +kernel
theorem dTr_isSubset_22 : decode cTr_isSubset 22 = .ok (.if_icmp .ge 16, 3) := by decide +kernel
theorem dTr_isSubset_25 : decode cTr_isSubset 25 = .ok (.iload_n 2, 1) := by decide +kernel
theorem dTr_isSubset_26 : decode cTr_isSubset 26 = .ok (.iload_n 1, 1) := by decide +kernel
theorem dTr_isSubset_27 : decode cTr_isSubset 27 = .ok (.invokestatic 26, 3) := by decide +kernel
theorem dTr_isSubset_30 : decode cTr_isSubset 30 = .ok (.iconst 1, 1) := by decide +kernel
theorem dTr_isSubset_31 : decode cTr_isSubset 31 = .ok (.if_icmp .lt 7, 3) := by decide +kernel
theorem dTr_isSubset_34 : decode cTr_isSubset 34 = .ok (.iconst 1, 1) := by decide +kernel
theorem dTr_isSubset_35 : decode cTr_isSubset 35 = .ok (.goto 4, 3) := by decide +kernel
theorem dTr_isSubset_38 : decode cTr_isSubset 38 = .ok (.iconst 0, 1) := by decide +kernel
theorem dTr_isSubset_39 : decode cTr_isSubset 39 = .ok (.ireturn, 1) := by decide +kernel
theorem dEn_unwrap_0 : decode cEn_unwrap 0 = .ok (.bipush 12, 2) := by decide +kernel
theorem dEn_unwrap_2 : decode cEn_unwrap 2 = .ok (.istore_n 2, 1) := by decide +kernel
theorem dEn_unwrap_3 : decode cEn_unwrap 3 = .ok (.iload_n 2, 1) := by decide +kernel
theorem dEn_unwrap_4 : decode cEn_unwrap 4 = .ok (.iconst 1, 1) := by decide +kernel
theorem dEn_unwrap_5 : decode cEn_unwrap 5 = .ok (.if_icmp .lt 55, 3) := by decide +kernel
theorem dEn_unwrap_8 : decode cEn_unwrap 8 = .ok (.aload_n 1, 1) := by decide +kernel
theorem dEn_unwrap_9 : decode cEn_unwrap 9 = .ok (.aload_n 0, 1) := by decide +kernel
theorem dEn_unwrap_10 : decode cEn_unwrap 10 = .ok (.getfield 11, 3) := by decide +kernel
theorem dEn_unwrap_13 : decode cEn_unwrap 13 = .ok (.iload_n 2, 1) := by decide +kernel
theorem dEn_unwrap_14 : decode cEn_unwrap 14 = .ok (.i2l, 1) := by decide +kernel
theorem dEn_unwrap_15 : decode cEn_unwrap 15 = .ok (.lxor, 1) := by decide +kernel
theorem dEn_unwrap_16 : decode cEn_unwrap 16 = .ok (.iload_n 2, 1) := by decide +kernel
theorem dEn_unwrap_17 : decode cEn_unwrap 17 = .ok (.iconst 2, 1) := by decide +kernel
theorem dEn_unwrap_18 : decode cEn_unwrap 18 = .ok (.irem, 1) := by decide +kernel
theorem dEn_unwrap_19 : decode cEn_unwrap 19 = .ok (.iconst 1, 1) := by decide +kernel
theorem dEn_unwrap_20 : decode cEn_unwrap 20 = .ok (.if_icmp .ne 10, 3) := by decide +kernel
theorem dEn_unwrap_23 : decode cEn_unwrap 23 = .ok (.aload_n 0, 1) := by decide +kernel
theorem dEn_unwrap_24 : decode cEn_unwrap 24 = .ok (.getfield 15, 3) := by decide +kernel
theorem dEn_unwrap_27 : decode cEn_unwrap 27 = .ok (.goto 7, 3) := by decide +kernel
theorem dEn_unwrap_30 : decode cEn_unwrap 30 = .ok (.aload_n 0, 1) := by decide +kernel
theorem dEn_unwrap_31 : decode cEn_unwrap 31 = .ok (.getfield 18, 3) := by decide +kernel
theorem dEn_unwrap_34 : decode cEn_unwrap 34 = .ok (.invokevirtual 33, 3) := by decide +kernel
theorem dEn_unwrap_37 : decode cEn_unwrap 37 = .ok (.aload_n 0, 1) := by decide +kernel
theorem dEn_unwrap_38 : decode cEn_unwrap 38 = .ok (.aload_n 1, 1) := by decide +kernel
theorem dEn_unwrap_39 : decode cEn_unwrap 39 = .ok (.getfield 27, 3) := by decide +kernel
theorem dEn_unwrap_42 : decode cEn_unwrap 42 = .ok (.putfield 11, 3) := by decide +kernel
theorem dEn_unwrap_45 : decode cEn_unwrap 45 = .ok (.aload_n 0, 1) := by decide +kernel
theorem dEn_unwrap_46 : decode cEn_unwrap 46 = .ok (.iload_n 2, 1) := by decide +kernel
theorem dEn_unwrap_47 : decode cEn_unwrap 47 = .ok (.aload_n 1, 1) := by decide +kernel
theorem dEn_unwrap_48 : decode cEn_unwrap 48 = .ok (.getfield 28, 3) := by decide +kernel
theorem dEn_unwrap_51 : decode cEn_unwrap 51 = .ok (.invokevirtual 29, 3) := by decide +kernel
theorem dEn_unwrap_54 : decode cEn_unwrap 54 = .ok (.iinc 2 (-1), 3) := by decide +kernel
theorem dEn_unwrap_57 : decode cEn_unwrap 57 = .ok (.goto (-54), 3) := by decide +kernel
theorem dEn_unwrap_60 : decode cEn_unwrap 60 = .ok (.aload_n 0, 1) := by decide +kernel
theorem dEn_unwrap_61 : decode cEn_unwrap 61 = .ok (.getfield 11, 3) := by decide +kernel
theorem dEn_unwrap_64 : decode cEn_unwrap 64 = .ok (.ldc2_w 9, 3) := by decide +kernel
theorem dEn_unwrap_67 : decode cEn_unwrap 67 = .ok (.lcmp, 1) := by decide +kernel
theorem dEn_unwrap_68 : decode cEn_unwrap 68 = .ok (.ifCond .ne 7, 3) := by decide +kernel
theorem dEn_unwrap_71 : decode cEn_unwrap 71 = .ok (.iconst 1, 1) := by decide +kernel
theorem dEn_unwrap_72 : decode cEn_unwrap 72 = .ok (.goto 4, 3) := by decide +kernel
theorem dEn_unwrap_75 : decode cEn_unwrap 75 = .ok (.iconst 0, 1) := by decide +kernel
theorem dEn_unwrap_76 : decode cEn_unwrap 76 = .ok (.ireturn, 1) := by decide +kernel
theorem dDe_keep_0 : decode cDe_keep 0 = .ok (.aload_n 0, 1) := by decide +kernel
theorem dDe_keep_1 : decode cDe_keep 1 = .ok (.getfield 9, 3) := by decide +kernel
theorem dDe_keep_4 : decode cDe_keep 4 = .ok (.iload_n 1, 1) := by decide +kernel
theorem dDe_keep_5 : decode cDe_keep 5 = .ok (.iload_n 2, 1) := by decide +kernel
theorem dDe_keep_6 : decode cDe_keep 6 = .ok (.iastore, 1) := by decide +kernel
theorem dDe_keep_7 : decode cDe_keep 7 = .ok (.aload_n 0, 1) := by decide +kernel
theorem dDe_keep_8 : decode cDe_keep 8 = .ok (.getfield 15, 3) := by decide +kernel
theorem dDe_keep_11 : decode cDe_keep 11 = .ok (.iload_n 1, 1) := by decide +kernel
theorem dDe_keep_12 : decode cDe_keep 12 = .ok (.lload_n 3, 1) := by decide +kernel
theorem dDe_keep_13 : decode cDe_keep 13 = .ok (.lastore, 1) := by decide +kernel
theorem dDe_keep_14 : decode cDe_keep 14 = .ok (.aload_n 0, 1) := by decide +kernel
theorem dDe_keep_15 : decode cDe_keep 15 = .ok (.getfield 19, 3) := by decide +kernel
theorem dDe_keep_18 : decode cDe_keep 18 = .ok (.iload_n 1, 1) := by decide +kernel
theorem dDe_keep_19 : decode cDe_keep 19 = .ok (.lload 5, 2) := by decide +kernel
theorem dDe_keep_21 : decode cDe_keep 21 = .ok (.lastore, 1) := by decide +kernel
theorem dDe_keep_22 : decode cDe_keep 22 = .ok (.return_, 1) := by decide +kernel
theorem dTr_labelTop_0 : decode cTr_labelTop 0 = .ok (.aload_n 0, 1) := by decide +kernel
theorem dTr_labelTop_1 : decode cTr_labelTop 1 = .ok (.invokevirtual 22, 3) := by decide +kernel
theorem dTr_labelTop_4 : decode cTr_labelTop 4 = .ok (.iload_n 1, 1) := by decide +kernel
theorem dTr_labelTop_5 : decode cTr_labelTop 5 = .ok (.iadd, 1) := by decide +kernel
theorem dTr_labelTop_6 : decode cTr_labelTop 6 = .ok (.aload_n 0, 1) := by decide +kernel
theorem dTr_labelTop_7 : decode cTr_labelTop 7 = .ok (.getfield 9, 3) := by decide +kernel
theorem dTr_labelTop_10 : decode cTr_labelTop 10 = .ok (.aload_n 0, 1) := by decide +kernel
theorem dTr_labelTop_11 : decode cTr_labelTop 11 = .ok (.iload_n 2, 1) := by decide +kernel
theorem dTr_labelTop_12 : decode cTr_labelTop 12 = .ok (.invokevirtual 34, 3) := by decide +kernel
theorem dTr_labelTop_15 : decode cTr_labelTop 15 = .ok (.isub, 1) := by decide +kernel
theorem dTr_labelTop_16 : decode cTr_labelTop 16 = .ok (.ishr, 1) := by decide +kernel
theorem dTr_labelTop_17 : decode cTr_labelTop 17 = .ok (.ireturn, 1) := by decide +kernel
theorem dTr_levelOfTop_0 : decode cTr_levelOfTop 0 = .ok (.iconst 0, 1) := by decide +kernel
theorem dTr_levelOfTop_1 : decode cTr_levelOfTop 1 = .ok (.istore_n 2, 1) := by decide +kernel
theorem dTr_levelOfTop_2 : decode cTr_levelOfTop 2 = .ok (.iload_n 2, 1) := by decide +kernel
theorem dTr_levelOfTop_3 : decode cTr_levelOfTop 3 = .ok (.aload_n 0, 1) := by decide +kernel
theorem dTr_levelOfTop_4 : decode cTr_levelOfTop 4 = .ok (.getfield 9, 3) := by decide +kernel
theorem dTr_levelOfTop_7 : decode cTr_levelOfTop 7 = .ok (.iconst 1, 1) := by decide +kernel
theorem dTr_levelOfTop_8 : decode cTr_levelOfTop 8 = .ok (.isub, 1) := by decide +kernel
theorem dTr_levelOfTop_9 : decode cTr_levelOfTop 9 = .ok (.if_icmp .ge 20, 3) := by decide +kernel
theorem dTr_levelOfTop_12 : decode cTr_levelOfTop 12 = .ok (.iload_n 1, 1) := by decide +kernel
theorem dTr_levelOfTop_13 : decode cTr_levelOfTop 13 = .ok (.aload_n 0, 1) := by decide +kernel
theorem dTr_levelOfTop_14 : decode cTr_levelOfTop 14 = .ok (.iload_n 2, 1) := by decide +kernel
theorem dTr_levelOfTop_15 : decode cTr_levelOfTop 15 = .ok (.iconst 1, 1) := by decide +kernel
theorem dTr_levelOfTop_16 : decode cTr_levelOfTop 16 = .ok (.iadd, 1) := by decide +kernel
theorem dTr_levelOfTop_17 : decode cTr_levelOfTop 17 = .ok (.invokevirtual 38, 3) := by decide +kernel
theorem dTr_levelOfTop_20 : decode cTr_levelOfTop 20 = .ok (.if_icmp .lt 9, 3) := by decide +kernel
theorem dTr_levelOfTop_23 : decode cTr_levelOfTop 23 = .ok (.iinc 2 1, 3) := by decide +kernel
theorem dTr_levelOfTop_26 : decode cTr_levelOfTop 26 = .ok (.goto (-24), 3) := by decide +kernel
theorem dTr_levelOfTop_29 : decode cTr_levelOfTop 29 = .ok (.iload_n 2, 1) := by decide +kernel
theorem dTr_levelOfTop_30 : decode cTr_levelOfTop 30 = .ok (.ireturn, 1) := by decide +kernel
theorem dTr_labelsAbove_0 : decode cTr_labelsAbove 0 = .ok (.iload_n 1, 1) := by decide +kernel
theorem dTr_labelsAbove_1 : decode cTr_labelsAbove 1 = .ok (.aload_n 0, 1) := by decide +kernel
theorem dTr_labelsAbove_2 : decode cTr_labelsAbove 2 = .ok (.getfield 9, 3) := by decide +kernel
theorem dTr_labelsAbove_5 : decode cTr_labelsAbove 5 = .ok (.imul, 1) := by decide +kernel
theorem dTr_labelsAbove_6 : decode cTr_labelsAbove 6 = .ok (.iload_n 1, 1) := by decide +kernel
theorem dTr_labelsAbove_7 : decode cTr_labelsAbove 7 = .ok (.iload_n 1, 1) := by decide +kernel
theorem dTr_labelsAbove_8 : decode cTr_labelsAbove 8 = .ok (.iconst 1, 1) := by decide +kernel
theorem dTr_labelsAbove_9 : decode cTr_labelsAbove 9 = .ok (.isub, 1) := by decide +kernel
theorem dTr_labelsAbove_10 : decode cTr_labelsAbove 10 = .ok (.imul, 1) := by decide +kernel
theorem dTr_labelsAbove_11 : decode cTr_labelsAbove 11 = .ok (.iconst 2, 1) := by decide +kernel
theorem dTr_labelsAbove_12 : decode cTr_labelsAbove 12 = .ok (.idiv, 1) := by decide +kernel
theorem dTr_labelsAbove_13 : decode cTr_labelsAbove 13 = .ok (.isub, 1) := by decide +kernel
theorem dTr_labelsAbove_14 : decode cTr_labelsAbove 14 = .ok (.ireturn, 1) := by decide +kernel
theorem dTr_labelFoot_0 : decode cTr_labelFoot 0 = .ok (.aload_n 0, 1) := by decide +kernel
theorem dTr_labelFoot_1 : decode cTr_labelFoot 1 = .ok (.iload_n 2, 1) := by decide +kernel
theorem dTr_labelFoot_2 : decode cTr_labelFoot 2 = .ok (.invokevirtual 34, 3) := by decide +kernel
theorem dTr_labelFoot_5 : decode cTr_labelFoot 5 = .ok (.istore_n 3, 1) := by decide +kernel
theorem dTr_labelFoot_6 : decode cTr_labelFoot 6 = .ok (.iload_n 3, 1) := by decide +kernel
theorem dTr_labelFoot_7 : decode cTr_labelFoot 7 = .ok (.iconst 1, 1) := by decide +kernel
theorem dTr_labelFoot_8 : decode cTr_labelFoot 8 = .ok (.iadd, 1) := by decide +kernel
theorem dTr_labelFoot_9 : decode cTr_labelFoot 9 = .ok (.iload_n 2, 1) := by decide +kernel
theorem dTr_labelFoot_10 : decode cTr_labelFoot 10 = .ok (.iadd, 1) := by decide +kernel
theorem dTr_labelFoot_11 : decode cTr_labelFoot 11 = .ok (.aload_n 0, 1) := by decide +kernel
theorem dTr_labelFoot_12 : decode cTr_labelFoot 12 = .ok (.iload_n 3, 1) := by decide +kernel
theorem dTr_labelFoot_13 : decode cTr_labelFoot 13 = .ok (.invokevirtual 38, 3) := by decide +kernel
theorem dTr_labelFoot_16 : decode cTr_labelFoot 16 = .ok (.isub, 1) := by decide +kernel
theorem dTr_labelFoot_17 : decode cTr_labelFoot 17 = .ok (.istore 4, 2) := by decide +kernel
theorem dTr_labelFoot_19 : decode cTr_labelFoot 19 = .ok (.aload_n 0, 1) := by decide +kernel
theorem dTr_labelFoot_20 : decode cTr_labelFoot 20 = .ok (.invokevirtual 22, 3) := by decide +kernel
theorem dTr_labelFoot_23 : decode cTr_labelFoot 23 = .ok (.iload_n 1, 1) := by decide +kernel
theorem dTr_labelFoot_24 : decode cTr_labelFoot 24 = .ok (.iadd, 1) := by decide +kernel
theorem dTr_labelFoot_25 : decode cTr_labelFoot 25 = .ok (.aload_n 0, 1) := by decide +kernel
theorem dTr_labelFoot_26 : decode cTr_labelFoot 26 = .ok (.getfield 9, 3) := by decide +kernel
theorem dTr_labelFoot_29 : decode cTr_labelFoot 29 = .ok (.iload 4, 2) := by decide +kernel
theorem dTr_labelFoot_31 : decode cTr_labelFoot 31 = .ok (.isub, 1) := by decide +kernel
theorem dTr_labelFoot_32 : decode cTr_labelFoot 32 = .ok (.ishr, 1) := by decide +kernel
theorem dTr_labelFoot_33 : decode cTr_labelFoot 33 = .ok (.iconst 1, 1) := by decide +kernel
theorem dTr_labelFoot_34 : decode cTr_labelFoot 34 = .ok (.ixor, 1) := by decide +kernel
theorem dTr_labelFoot_35 : decode cTr_labelFoot 35 = .ok (.ireturn, 1) := by decide +kernel
section FLD
variable {p : Program} {l : Launch} {e : Env} {R : Room} {s : State} {m : MethodId} {args : Array Value} {below : List Frame} {meth : Method} {c : Code} {H : Heap} {locs : List Loc} {cells slots : Nat} {Q : State → Prop}
variable {cc : ByteArray} {pc : Nat} {ls : Array Slot} {rest : List Value} {G : gG} {A : Nat → Prop} {ws : va_W} {a : Nat} {fs : List Value} {v : Value}
theorem kfEn_27 : (Cond.fieldLink "CoverKeys$Envelope" 27 "CoverKeys$Cipher" "high" "J") ∈ ckT := ck_m1 (List.mem_of_getElem? (i := 33) rfl) rfl
theorem gfEn_27 (hx : p.tables.exec = Jvm.exec) (hb : c.code = cc) (hts : ∀ w ∈ ckT, w.before args s = true) (hown : s.vm.findClass "CoverKeys$Envelope" = some m.cls) (hG : gk G A s s.heap) (hP : va_P G.1 vwCl ws H) (q0 : Nat) (he : ws[q0]? = some (oC a 1 fs)) (hv : fs[1]? = some v) (hdg : decode cc pc = .ok (.getfield 27, 3))
    (kk : W p l e R s m args below meth c H locs cells slots Q (F0 m (pc + 3) ls (v :: rest))) : W p l e R s m args below meth c H locs cells slots Q (F0 m pc ls (.ref a :: rest)) :=
  va_get (T := TCi) (N := 3) hx hb hts inCi hown hG.1 hP q0 he rfl 1 (by decide) (hts _ kfEn_27) (fun _ h => h) hv hdg kk
theorem pfEn_27 (hx : p.tables.exec = Jvm.exec) (hb : c.code = cc) (hts : ∀ w ∈ ckT, w.before args s = true) (hown : s.vm.findClass "CoverKeys$Envelope" = some m.cls) (hG : gk G A s s.heap) (hP : va_P G.1 vwCl ws H) (hD : va_D A ws) (hS : va_S A s.heap H locs) (q0 : Nat) (he : ws[q0]? = some (oC a 1 fs)) (hn : narrow (.long) v = v) (hfit : fits (.long) v = true) (hl : 1 < fs.length) (hdg : decode cc pc = .ok (.putfield 27, 3))
    (kk : ∀ (H1 : Heap) (locs1 : List Loc), va_P G.1 vwCl (ws.set q0 (oC a 1 (fs.set 1 v))) H1 → va_D A (ws.set q0 (oC a 1 (fs.set 1 v))) → va_S A s.heap H1 locs1 → W p l e R s m args below meth c H1 locs1 cells slots Q (F0 m (pc + 3) ls rest)) : W p l e R s m args below meth c H locs cells slots Q (F0 m pc ls (v :: .ref a :: rest)) :=
  va_put (T := TCi) (N := 3) hx hb hts inCi tyCi tyCi_ok nmCi hown hG.1 hP hD hS q0 he rfl 1 (by decide) (hts _ kfEn_27) (fun _ h => h) rfl (tyCi_ok 1 (by decide)) hn hfit hl hdg kk
theorem kfTr_50 : (Cond.fieldLink "CoverKeys$Tree" 50 "CoverKeys$Cipher" "high" "J") ∈ ckT := ck_m1 (List.mem_of_getElem? (i := 35) rfl) rfl
theorem gfTr_50 (hx : p.tables.exec = Jvm.exec) (hb : c.code = cc) (hts : ∀ w ∈ ckT, w.before args s = true) (hown : s.vm.findClass "CoverKeys$Tree" = some m.cls) (hG : gk G A s s.heap) (hP : va_P G.1 vwCl ws H) (q0 : Nat) (he : ws[q0]? = some (oC a 1 fs)) (hv : fs[1]? = some v) (hdg : decode cc pc = .ok (.getfield 50, 3))
    (kk : W p l e R s m args below meth c H locs cells slots Q (F0 m (pc + 3) ls (v :: rest))) : W p l e R s m args below meth c H locs cells slots Q (F0 m pc ls (.ref a :: rest)) :=
  va_get (T := TCi) (N := 3) hx hb hts inCi hown hG.1 hP q0 he rfl 1 (by decide) (hts _ kfTr_50) (fun _ h => h) hv hdg kk
theorem pfTr_50 (hx : p.tables.exec = Jvm.exec) (hb : c.code = cc) (hts : ∀ w ∈ ckT, w.before args s = true) (hown : s.vm.findClass "CoverKeys$Tree" = some m.cls) (hG : gk G A s s.heap) (hP : va_P G.1 vwCl ws H) (hD : va_D A ws) (hS : va_S A s.heap H locs) (q0 : Nat) (he : ws[q0]? = some (oC a 1 fs)) (hn : narrow (.long) v = v) (hfit : fits (.long) v = true) (hl : 1 < fs.length) (hdg : decode cc pc = .ok (.putfield 50, 3))
    (kk : ∀ (H1 : Heap) (locs1 : List Loc), va_P G.1 vwCl (ws.set q0 (oC a 1 (fs.set 1 v))) H1 → va_D A (ws.set q0 (oC a 1 (fs.set 1 v))) → va_S A s.heap H1 locs1 → W p l e R s m args below meth c H1 locs1 cells slots Q (F0 m (pc + 3) ls rest)) : W p l e R s m args below meth c H locs cells slots Q (F0 m pc ls (v :: .ref a :: rest)) :=
  va_put (T := TCi) (N := 3) hx hb hts inCi tyCi tyCi_ok nmCi hown hG.1 hP hD hS q0 he rfl 1 (by decide) (hts _ kfTr_50) (fun _ h => h) rfl (tyCi_ok 1 (by decide)) hn hfit hl hdg kk
theorem kfEn_28 : (Cond.fieldLink "CoverKeys$Envelope" 28 "CoverKeys$Cipher" "low" "J") ∈ ckT := ck_m1 (List.mem_of_getElem? (i := 37) rfl) rfl
theorem gfEn_28 (hx : p.tables.exec = Jvm.exec) (hb : c.code = cc) (hts : ∀ w ∈ ckT, w.before args s = true) (hown : s.vm.findClass "CoverKeys$Envelope" = some m.cls) (hG : gk G A s s.heap) (hP : va_P G.1 vwCl ws H) (q0 : Nat) (he : ws[q0]? = some (oC a 1 fs)) (hv : fs[2]? = some v) (hdg : decode cc pc = .ok (.getfield 28, 3))
    (kk : W p l e R s m args below meth c H locs cells slots Q (F0 m (pc + 3) ls (v :: rest))) : W p l e R s m args below meth c H locs cells slots Q (F0 m pc ls (.ref a :: rest)) :=
  va_get (T := TCi) (N := 3) hx hb hts inCi hown hG.1 hP q0 he rfl 2 (by decide) (hts _ kfEn_28) (fun _ h => h) hv hdg kk
theorem pfEn_28 (hx : p.tables.exec = Jvm.exec) (hb : c.code = cc) (hts : ∀ w ∈ ckT, w.before args s = true) (hown : s.vm.findClass "CoverKeys$Envelope" = some m.cls) (hG : gk G A s s.heap) (hP : va_P G.1 vwCl ws H) (hD : va_D A ws) (hS : va_S A s.heap H locs) (q0 : Nat) (he : ws[q0]? = some (oC a 1 fs)) (hn : narrow (.long) v = v) (hfit : fits (.long) v = true) (hl : 2 < fs.length) (hdg : decode cc pc = .ok (.putfield 28, 3))
    (kk : ∀ (H1 : Heap) (locs1 : List Loc), va_P G.1 vwCl (ws.set q0 (oC a 1 (fs.set 2 v))) H1 → va_D A (ws.set q0 (oC a 1 (fs.set 2 v))) → va_S A s.heap H1 locs1 → W p l e R s m args below meth c H1 locs1 cells slots Q (F0 m (pc + 3) ls rest)) : W p l e R s m args below meth c H locs cells slots Q (F0 m pc ls (v :: .ref a :: rest)) :=
  va_put (T := TCi) (N := 3) hx hb hts inCi tyCi tyCi_ok nmCi hown hG.1 hP hD hS q0 he rfl 2 (by decide) (hts _ kfEn_28) (fun _ h => h) rfl (tyCi_ok 2 (by decide)) hn hfit hl hdg kk
theorem kfTr_53 : (Cond.fieldLink "CoverKeys$Tree" 53 "CoverKeys$Cipher" "low" "J") ∈ ckT := ck_m1 (List.mem_of_getElem? (i := 39) rfl) rfl
theorem gfTr_53 (hx : p.tables.exec = Jvm.exec) (hb : c.code = cc) (hts : ∀ w ∈ ckT, w.before args s = true) (hown : s.vm.findClass "CoverKeys$Tree" = some m.cls) (hG : gk G A s s.heap) (hP : va_P G.1 vwCl ws H) (q0 : Nat) (he : ws[q0]? = some (oC a 1 fs)) (hv : fs[2]? = some v) (hdg : decode cc pc = .ok (.getfield 53, 3))
    (kk : W p l e R s m args below meth c H locs cells slots Q (F0 m (pc + 3) ls (v :: rest))) : W p l e R s m args below meth c H locs cells slots Q (F0 m pc ls (.ref a :: rest)) :=
  va_get (T := TCi) (N := 3) hx hb hts inCi hown hG.1 hP q0 he rfl 2 (by decide) (hts _ kfTr_53) (fun _ h => h) hv hdg kk
theorem pfTr_53 (hx : p.tables.exec = Jvm.exec) (hb : c.code = cc) (hts : ∀ w ∈ ckT, w.before args s = true) (hown : s.vm.findClass "CoverKeys$Tree" = some m.cls) (hG : gk G A s s.heap) (hP : va_P G.1 vwCl ws H) (hD : va_D A ws) (hS : va_S A s.heap H locs) (q0 : Nat) (he : ws[q0]? = some (oC a 1 fs)) (hn : narrow (.long) v = v) (hfit : fits (.long) v = true) (hl : 2 < fs.length) (hdg : decode cc pc = .ok (.putfield 53, 3))
    (kk : ∀ (H1 : Heap) (locs1 : List Loc), va_P G.1 vwCl (ws.set q0 (oC a 1 (fs.set 2 v))) H1 → va_D A (ws.set q0 (oC a 1 (fs.set 2 v))) → va_S A s.heap H1 locs1 → W p l e R s m args below meth c H1 locs1 cells slots Q (F0 m (pc + 3) ls rest)) : W p l e R s m args below meth c H locs cells slots Q (F0 m pc ls (v :: .ref a :: rest)) :=
  va_put (T := TCi) (N := 3) hx hb hts inCi tyCi tyCi_ok nmCi hown hG.1 hP hD hS q0 he rfl 2 (by decide) (hts _ kfTr_53) (fun _ h => h) rfl (tyCi_ok 2 (by decide)) hn hfit hl hdg kk
theorem kfTr_9 : (Cond.fieldLink "CoverKeys$Tree" 9 "CoverKeys$Tree" "depth" "I") ∈ ckT := ck_m1 (List.mem_of_getElem? (i := 55) rfl) rfl
theorem gfTr_9 (hx : p.tables.exec = Jvm.exec) (hb : c.code = cc) (hts : ∀ w ∈ ckT, w.before args s = true) (hown : s.vm.findClass "CoverKeys$Tree" = some m.cls) (hG : gk G A s s.heap) (hP : va_P G.1 vwCl ws H) (q0 : Nat) (he : ws[q0]? = some (oC a 6 fs)) (hv : fs[0]? = some v) (hdg : decode cc pc = .ok (.getfield 9, 3))
    (kk : W p l e R s m args below meth c H locs cells slots Q (F0 m (pc + 3) ls (v :: rest))) : W p l e R s m args below meth c H locs cells slots Q (F0 m pc ls (.ref a :: rest)) :=
  va_get (T := TTr) (N := 3) hx hb hts inTr hown hG.1 hP q0 he rfl 0 (by decide) (hts _ kfTr_9) (fun _ h => h) hv hdg kk
theorem pfTr_9 (hx : p.tables.exec = Jvm.exec) (hb : c.code = cc) (hts : ∀ w ∈ ckT, w.before args s = true) (hown : s.vm.findClass "CoverKeys$Tree" = some m.cls) (hG : gk G A s s.heap) (hP : va_P G.1 vwCl ws H) (hD : va_D A ws) (hS : va_S A s.heap H locs) (q0 : Nat) (he : ws[q0]? = some (oC a 6 fs)) (hn : narrow (.int) v = v) (hfit : fits (.int) v = true) (hl : 0 < fs.length) (hdg : decode cc pc = .ok (.putfield 9, 3))
    (kk : ∀ (H1 : Heap) (locs1 : List Loc), va_P G.1 vwCl (ws.set q0 (oC a 6 (fs.set 0 v))) H1 → va_D A (ws.set q0 (oC a 6 (fs.set 0 v))) → va_S A s.heap H1 locs1 → W p l e R s m args below meth c H1 locs1 cells slots Q (F0 m (pc + 3) ls rest)) : W p l e R s m args below meth c H locs cells slots Q (F0 m pc ls (v :: .ref a :: rest)) :=
  va_put (T := TTr) (N := 3) hx hb hts inTr tyTr tyTr_ok nmTr hown hG.1 hP hD hS q0 he rfl 0 (by decide) (hts _ kfTr_9) (fun _ h => h) rfl (tyTr_ok 0 (by decide)) hn hfit hl hdg kk
theorem kfTr_15 : (Cond.fieldLink "CoverKeys$Tree" 15 "CoverKeys$Tree" "seedHigh" "J") ∈ ckT := ck_m1 (List.mem_of_getElem? (i := 57) rfl) rfl
theorem gfTr_15 (hx : p.tables.exec = Jvm.exec) (hb : c.code = cc) (hts : ∀ w ∈ ckT, w.before args s = true) (hown : s.vm.findClass "CoverKeys$Tree" = some m.cls) (hG : gk G A s s.heap) (hP : va_P G.1 vwCl ws H) (q0 : Nat) (he : ws[q0]? = some (oC a 6 fs)) (hv : fs[1]? = some v) (hdg : decode cc pc = .ok (.getfield 15, 3))
    (kk : W p l e R s m args below meth c H locs cells slots Q (F0 m (pc + 3) ls (v :: rest))) : W p l e R s m args below meth c H locs cells slots Q (F0 m pc ls (.ref a :: rest)) :=
  va_get (T := TTr) (N := 3) hx hb hts inTr hown hG.1 hP q0 he rfl 1 (by decide) (hts _ kfTr_15) (fun _ h => h) hv hdg kk
theorem pfTr_15 (hx : p.tables.exec = Jvm.exec) (hb : c.code = cc) (hts : ∀ w ∈ ckT, w.before args s = true) (hown : s.vm.findClass "CoverKeys$Tree" = some m.cls) (hG : gk G A s s.heap) (hP : va_P G.1 vwCl ws H) (hD : va_D A ws) (hS : va_S A s.heap H locs) (q0 : Nat) (he : ws[q0]? = some (oC a 6 fs)) (hn : narrow (.long) v = v) (hfit : fits (.long) v = true) (hl : 1 < fs.length) (hdg : decode cc pc = .ok (.putfield 15, 3))
    (kk : ∀ (H1 : Heap) (locs1 : List Loc), va_P G.1 vwCl (ws.set q0 (oC a 6 (fs.set 1 v))) H1 → va_D A (ws.set q0 (oC a 6 (fs.set 1 v))) → va_S A s.heap H1 locs1 → W p l e R s m args below meth c H1 locs1 cells slots Q (F0 m (pc + 3) ls rest)) : W p l e R s m args below meth c H locs cells slots Q (F0 m pc ls (v :: .ref a :: rest)) :=
  va_put (T := TTr) (N := 3) hx hb hts inTr tyTr tyTr_ok nmTr hown hG.1 hP hD hS q0 he rfl 1 (by decide) (hts _ kfTr_15) (fun _ h => h) rfl (tyTr_ok 1 (by decide)) hn hfit hl hdg kk
theorem kfTr_19 : (Cond.fieldLink "CoverKeys$Tree" 19 "CoverKeys$Tree" "seedLow" "J") ∈ ckT := ck_m1 (List.mem_of_getElem? (i := 58) rfl) rfl
theorem gfTr_19 (hx : p.tables.exec = Jvm.exec) (hb : c.code = cc) (hts : ∀ w ∈ ckT, w.before args s = true) (hown : s.vm.findClass "CoverKeys$Tree" = some m.cls) (hG : gk G A s s.heap) (hP : va_P G.1 vwCl ws H) (q0 : Nat) (he : ws[q0]? = some (oC a 6 fs)) (hv : fs[2]? = some v) (hdg : decode cc pc = .ok (.getfield 19, 3))
    (kk : W p l e R s m args below meth c H locs cells slots Q (F0 m (pc + 3) ls (v :: rest))) : W p l e R s m args below meth c H locs cells slots Q (F0 m pc ls (.ref a :: rest)) :=
  va_get (T := TTr) (N := 3) hx hb hts inTr hown hG.1 hP q0 he rfl 2 (by decide) (hts _ kfTr_19) (fun _ h => h) hv hdg kk
theorem pfTr_19 (hx : p.tables.exec = Jvm.exec) (hb : c.code = cc) (hts : ∀ w ∈ ckT, w.before args s = true) (hown : s.vm.findClass "CoverKeys$Tree" = some m.cls) (hG : gk G A s s.heap) (hP : va_P G.1 vwCl ws H) (hD : va_D A ws) (hS : va_S A s.heap H locs) (q0 : Nat) (he : ws[q0]? = some (oC a 6 fs)) (hn : narrow (.long) v = v) (hfit : fits (.long) v = true) (hl : 2 < fs.length) (hdg : decode cc pc = .ok (.putfield 19, 3))
    (kk : ∀ (H1 : Heap) (locs1 : List Loc), va_P G.1 vwCl (ws.set q0 (oC a 6 (fs.set 2 v))) H1 → va_D A (ws.set q0 (oC a 6 (fs.set 2 v))) → va_S A s.heap H1 locs1 → W p l e R s m args below meth c H1 locs1 cells slots Q (F0 m (pc + 3) ls rest)) : W p l e R s m args below meth c H locs cells slots Q (F0 m pc ls (v :: .ref a :: rest)) :=
  va_put (T := TTr) (N := 3) hx hb hts inTr tyTr tyTr_ok nmTr hown hG.1 hP hD hS q0 he rfl 2 (by decide) (hts _ kfTr_19) (fun _ h => h) rfl (tyTr_ok 2 (by decide)) hn hfit hl hdg kk
theorem kfCo_9 : (Cond.fieldLink "CoverKeys$Cover" 9 "CoverKeys$Cover" "marked" "[Z") ∈ ckT := ck_m1 (List.mem_of_getElem? (i := 72) rfl) rfl
theorem gfCo_9 (hx : p.tables.exec = Jvm.exec) (hb : c.code = cc) (hts : ∀ w ∈ ckT, w.before args s = true) (hown : s.vm.findClass "CoverKeys$Cover" = some m.cls) (hG : gk G A s s.heap) (hP : va_P G.1 vwCl ws H) (q0 : Nat) (he : ws[q0]? = some (oC a 2 fs)) (hv : fs[0]? = some v) (hdg : decode cc pc = .ok (.getfield 9, 3))
    (kk : W p l e R s m args below meth c H locs cells slots Q (F0 m (pc + 3) ls (v :: rest))) : W p l e R s m args below meth c H locs cells slots Q (F0 m pc ls (.ref a :: rest)) :=
  va_get (T := TCo) (N := 1) hx hb hts inCo hown hG.1 hP q0 he rfl 0 (by decide) (hts _ kfCo_9) (fun _ h => h) hv hdg kk
theorem kfEn_11 : (Cond.fieldLink "CoverKeys$Envelope" 11 "CoverKeys$Envelope" "check" "J") ∈ ckT := ck_m1 (List.mem_of_getElem? (i := 83) rfl) rfl
theorem gfEn_11 (hx : p.tables.exec = Jvm.exec) (hb : c.code = cc) (hts : ∀ w ∈ ckT, w.before args s = true) (hown : s.vm.findClass "CoverKeys$Envelope" = some m.cls) (hG : gk G A s s.heap) (hP : va_P G.1 vwCl ws H) (q0 : Nat) (he : ws[q0]? = some (oC a 4 fs)) (hv : fs[0]? = some v) (hdg : decode cc pc = .ok (.getfield 11, 3))
    (kk : W p l e R s m args below meth c H locs cells slots Q (F0 m (pc + 3) ls (v :: rest))) : W p l e R s m args below meth c H locs cells slots Q (F0 m pc ls (.ref a :: rest)) :=
  va_get (T := TEn) (N := 3) hx hb hts inEn hown hG.1 hP q0 he rfl 0 (by decide) (hts _ kfEn_11) (fun _ h => h) hv hdg kk
theorem pfEn_11 (hx : p.tables.exec = Jvm.exec) (hb : c.code = cc) (hts : ∀ w ∈ ckT, w.before args s = true) (hown : s.vm.findClass "CoverKeys$Envelope" = some m.cls) (hG : gk G A s s.heap) (hP : va_P G.1 vwCl ws H) (hD : va_D A ws) (hS : va_S A s.heap H locs) (q0 : Nat) (he : ws[q0]? = some (oC a 4 fs)) (hn : narrow (.long) v = v) (hfit : fits (.long) v = true) (hl : 0 < fs.length) (hdg : decode cc pc = .ok (.putfield 11, 3))
    (kk : ∀ (H1 : Heap) (locs1 : List Loc), va_P G.1 vwCl (ws.set q0 (oC a 4 (fs.set 0 v))) H1 → va_D A (ws.set q0 (oC a 4 (fs.set 0 v))) → va_S A s.heap H1 locs1 → W p l e R s m args below meth c H1 locs1 cells slots Q (F0 m (pc + 3) ls rest)) : W p l e R s m args below meth c H locs cells slots Q (F0 m pc ls (v :: .ref a :: rest)) :=
  va_put (T := TEn) (N := 3) hx hb hts inEn tyEn tyEn_ok nmEn hown hG.1 hP hD hS q0 he rfl 0 (by decide) (hts _ kfEn_11) (fun _ h => h) rfl (tyEn_ok 0 (by decide)) hn hfit hl hdg kk
theorem kfEn_15 : (Cond.fieldLink "CoverKeys$Envelope" 15 "CoverKeys$Envelope" "high" "J") ∈ ckT := ck_m1 (List.mem_of_getElem? (i := 85) rfl) rfl
theorem gfEn_15 (hx : p.tables.exec = Jvm.exec) (hb : c.code = cc) (hts : ∀ w ∈ ckT, w.before args s = true) (hown : s.vm.findClass "CoverKeys$Envelope" = some m.cls) (hG : gk G A s s.heap) (hP : va_P G.1 vwCl ws H) (q0 : Nat) (he : ws[q0]? = some (oC a 4 fs)) (hv : fs[1]? = some v) (hdg : decode cc pc = .ok (.getfield 15, 3))
    (kk : W p l e R s m args below meth c H locs cells slots Q (F0 m (pc + 3) ls (v :: rest))) : W p l e R s m args below meth c H locs cells slots Q (F0 m pc ls (.ref a :: rest)) :=
  va_get (T := TEn) (N := 3) hx hb hts inEn hown hG.1 hP q0 he rfl 1 (by decide) (hts _ kfEn_15) (fun _ h => h) hv hdg kk
theorem pfEn_15 (hx : p.tables.exec = Jvm.exec) (hb : c.code = cc) (hts : ∀ w ∈ ckT, w.before args s = true) (hown : s.vm.findClass "CoverKeys$Envelope" = some m.cls) (hG : gk G A s s.heap) (hP : va_P G.1 vwCl ws H) (hD : va_D A ws) (hS : va_S A s.heap H locs) (q0 : Nat) (he : ws[q0]? = some (oC a 4 fs)) (hn : narrow (.long) v = v) (hfit : fits (.long) v = true) (hl : 1 < fs.length) (hdg : decode cc pc = .ok (.putfield 15, 3))
    (kk : ∀ (H1 : Heap) (locs1 : List Loc), va_P G.1 vwCl (ws.set q0 (oC a 4 (fs.set 1 v))) H1 → va_D A (ws.set q0 (oC a 4 (fs.set 1 v))) → va_S A s.heap H1 locs1 → W p l e R s m args below meth c H1 locs1 cells slots Q (F0 m (pc + 3) ls rest)) : W p l e R s m args below meth c H locs cells slots Q (F0 m pc ls (v :: .ref a :: rest)) :=
  va_put (T := TEn) (N := 3) hx hb hts inEn tyEn tyEn_ok nmEn hown hG.1 hP hD hS q0 he rfl 1 (by decide) (hts _ kfEn_15) (fun _ h => h) rfl (tyEn_ok 1 (by decide)) hn hfit hl hdg kk
theorem kfEn_18 : (Cond.fieldLink "CoverKeys$Envelope" 18 "CoverKeys$Envelope" "low" "J") ∈ ckT := ck_m1 (List.mem_of_getElem? (i := 87) rfl) rfl
theorem gfEn_18 (hx : p.tables.exec = Jvm.exec) (hb : c.code = cc) (hts : ∀ w ∈ ckT, w.before args s = true) (hown : s.vm.findClass "CoverKeys$Envelope" = some m.cls) (hG : gk G A s s.heap) (hP : va_P G.1 vwCl ws H) (q0 : Nat) (he : ws[q0]? = some (oC a 4 fs)) (hv : fs[2]? = some v) (hdg : decode cc pc = .ok (.getfield 18, 3))
    (kk : W p l e R s m args below meth c H locs cells slots Q (F0 m (pc + 3) ls (v :: rest))) : W p l e R s m args below meth c H locs cells slots Q (F0 m pc ls (.ref a :: rest)) :=
  va_get (T := TEn) (N := 3) hx hb hts inEn hown hG.1 hP q0 he rfl 2 (by decide) (hts _ kfEn_18) (fun _ h => h) hv hdg kk
theorem pfEn_18 (hx : p.tables.exec = Jvm.exec) (hb : c.code = cc) (hts : ∀ w ∈ ckT, w.before args s = true) (hown : s.vm.findClass "CoverKeys$Envelope" = some m.cls) (hG : gk G A s s.heap) (hP : va_P G.1 vwCl ws H) (hD : va_D A ws) (hS : va_S A s.heap H locs) (q0 : Nat) (he : ws[q0]? = some (oC a 4 fs)) (hn : narrow (.long) v = v) (hfit : fits (.long) v = true) (hl : 2 < fs.length) (hdg : decode cc pc = .ok (.putfield 18, 3))
    (kk : ∀ (H1 : Heap) (locs1 : List Loc), va_P G.1 vwCl (ws.set q0 (oC a 4 (fs.set 2 v))) H1 → va_D A (ws.set q0 (oC a 4 (fs.set 2 v))) → va_S A s.heap H1 locs1 → W p l e R s m args below meth c H1 locs1 cells slots Q (F0 m (pc + 3) ls rest)) : W p l e R s m args below meth c H locs cells slots Q (F0 m pc ls (v :: .ref a :: rest)) :=
  va_put (T := TEn) (N := 3) hx hb hts inEn tyEn tyEn_ok nmEn hown hG.1 hP hD hS q0 he rfl 2 (by decide) (hts _ kfEn_18) (fun _ h => h) rfl (tyEn_ok 2 (by decide)) hn hfit hl hdg kk
theorem kfPa_9 : (Cond.fieldLink "CoverKeys$Packet" 9 "CoverKeys$Packet" "bytes" "[I") ∈ ckT := ck_m1 (List.mem_of_getElem? (i := 102) rfl) rfl
theorem gfPa_9 (hx : p.tables.exec = Jvm.exec) (hb : c.code = cc) (hts : ∀ w ∈ ckT, w.before args s = true) (hown : s.vm.findClass "CoverKeys$Packet" = some m.cls) (hG : gk G A s s.heap) (hP : va_P G.1 vwCl ws H) (q0 : Nat) (he : ws[q0]? = some (oC a 5 fs)) (hv : fs[0]? = some v) (hdg : decode cc pc = .ok (.getfield 9, 3))
    (kk : W p l e R s m args below meth c H locs cells slots Q (F0 m (pc + 3) ls (v :: rest))) : W p l e R s m args below meth c H locs cells slots Q (F0 m pc ls (.ref a :: rest)) :=
  va_get (T := TPa) (N := 2) hx hb hts inPa hown hG.1 hP q0 he rfl 0 (by decide) (hts _ kfPa_9) (fun _ h => h) hv hdg kk
theorem kfPa_15 : (Cond.fieldLink "CoverKeys$Packet" 15 "CoverKeys$Packet" "length" "I") ∈ ckT := ck_m1 (List.mem_of_getElem? (i := 104) rfl) rfl
theorem gfPa_15 (hx : p.tables.exec = Jvm.exec) (hb : c.code = cc) (hts : ∀ w ∈ ckT, w.before args s = true) (hown : s.vm.findClass "CoverKeys$Packet" = some m.cls) (hG : gk G A s s.heap) (hP : va_P G.1 vwCl ws H) (q0 : Nat) (he : ws[q0]? = some (oC a 5 fs)) (hv : fs[1]? = some v) (hdg : decode cc pc = .ok (.getfield 15, 3))
    (kk : W p l e R s m args below meth c H locs cells slots Q (F0 m (pc + 3) ls (v :: rest))) : W p l e R s m args below meth c H locs cells slots Q (F0 m pc ls (.ref a :: rest)) :=
  va_get (T := TPa) (N := 2) hx hb hts inPa hown hG.1 hP q0 he rfl 1 (by decide) (hts _ kfPa_15) (fun _ h => h) hv hdg kk
theorem pfPa_15 (hx : p.tables.exec = Jvm.exec) (hb : c.code = cc) (hts : ∀ w ∈ ckT, w.before args s = true) (hown : s.vm.findClass "CoverKeys$Packet" = some m.cls) (hG : gk G A s s.heap) (hP : va_P G.1 vwCl ws H) (hD : va_D A ws) (hS : va_S A s.heap H locs) (q0 : Nat) (he : ws[q0]? = some (oC a 5 fs)) (hn : narrow (.int) v = v) (hfit : fits (.int) v = true) (hl : 1 < fs.length) (hdg : decode cc pc = .ok (.putfield 15, 3))
    (kk : ∀ (H1 : Heap) (locs1 : List Loc), va_P G.1 vwCl (ws.set q0 (oC a 5 (fs.set 1 v))) H1 → va_D A (ws.set q0 (oC a 5 (fs.set 1 v))) → va_S A s.heap H1 locs1 → W p l e R s m args below meth c H1 locs1 cells slots Q (F0 m (pc + 3) ls rest)) : W p l e R s m args below meth c H locs cells slots Q (F0 m pc ls (v :: .ref a :: rest)) :=
  va_put (T := TPa) (N := 2) hx hb hts inPa tyPa tyPa_ok nmPa hown hG.1 hP hD hS q0 he rfl 1 (by decide) (hts _ kfPa_15) (fun _ h => h) rfl (tyPa_ok 1 (by decide)) hn hfit hl hdg kk
theorem kfCh_9 : (Cond.fieldLink "CoverKeys$Channel" 9 "CoverKeys$Channel" "subscribers" "[Z") ∈ ckT := ck_m1 (List.mem_of_getElem? (i := 120) rfl) rfl
theorem gfCh_9 (hx : p.tables.exec = Jvm.exec) (hb : c.code = cc) (hts : ∀ w ∈ ckT, w.before args s = true) (hown : s.vm.findClass "CoverKeys$Channel" = some m.cls) (hG : gk G A s s.heap) (hP : va_P G.1 vwCl ws H) (q0 : Nat) (he : ws[q0]? = some (oC a 0 fs)) (hv : fs[0]? = some v) (hdg : decode cc pc = .ok (.getfield 9, 3))
    (kk : W p l e R s m args below meth c H locs cells slots Q (F0 m (pc + 3) ls (v :: rest))) : W p l e R s m args below meth c H locs cells slots Q (F0 m pc ls (.ref a :: rest)) :=
  va_get (T := TCh) (N := 7) hx hb hts inCh hown hG.1 hP q0 he rfl 0 (by decide) (hts _ kfCh_9) (fun _ h => h) hv hdg kk
theorem kfCo_21 : (Cond.fieldLink "CoverKeys$Cover" 21 "CoverKeys$Channel" "subscribers" "[Z") ∈ ckT := ck_m1 (List.mem_of_getElem? (i := 121) rfl) rfl
theorem gfCo_21 (hx : p.tables.exec = Jvm.exec) (hb : c.code = cc) (hts : ∀ w ∈ ckT, w.before args s = true) (hown : s.vm.findClass "CoverKeys$Cover" = some m.cls) (hG : gk G A s s.heap) (hP : va_P G.1 vwCl ws H) (q0 : Nat) (he : ws[q0]? = some (oC a 0 fs)) (hv : fs[0]? = some v) (hdg : decode cc pc = .ok (.getfield 21, 3))
    (kk : W p l e R s m args below meth c H locs cells slots Q (F0 m (pc + 3) ls (v :: rest))) : W p l e R s m args below meth c H locs cells slots Q (F0 m pc ls (.ref a :: rest)) :=
  va_get (T := TCh) (N := 7) hx hb hts inCh hown hG.1 hP q0 he rfl 0 (by decide) (hts _ kfCo_21) (fun _ h => h) hv hdg kk
theorem kfCh_15 : (Cond.fieldLink "CoverKeys$Channel" 15 "CoverKeys$Channel" "vs" "[I") ∈ ckT := ck_m1 (List.mem_of_getElem? (i := 123) rfl) rfl
theorem gfCh_15 (hx : p.tables.exec = Jvm.exec) (hb : c.code = cc) (hts : ∀ w ∈ ckT, w.before args s = true) (hown : s.vm.findClass "CoverKeys$Channel" = some m.cls) (hG : gk G A s s.heap) (hP : va_P G.1 vwCl ws H) (q0 : Nat) (he : ws[q0]? = some (oC a 0 fs)) (hv : fs[1]? = some v) (hdg : decode cc pc = .ok (.getfield 15, 3))
    (kk : W p l e R s m args below meth c H locs cells slots Q (F0 m (pc + 3) ls (v :: rest))) : W p l e R s m args below meth c H locs cells slots Q (F0 m pc ls (.ref a :: rest)) :=
  va_get (T := TCh) (N := 7) hx hb hts inCh hown hG.1 hP q0 he rfl 1 (by decide) (hts _ kfCh_15) (fun _ h => h) hv hdg kk
theorem kfCh_19 : (Cond.fieldLink "CoverKeys$Channel" 19 "CoverKeys$Channel" "ws" "[I") ∈ ckT := ck_m1 (List.mem_of_getElem? (i := 125) rfl) rfl
theorem gfCh_19 (hx : p.tables.exec = Jvm.exec) (hb : c.code = cc) (hts : ∀ w ∈ ckT, w.before args s = true) (hown : s.vm.findClass "CoverKeys$Channel" = some m.cls) (hG : gk G A s s.heap) (hP : va_P G.1 vwCl ws H) (q0 : Nat) (he : ws[q0]? = some (oC a 0 fs)) (hv : fs[2]? = some v) (hdg : decode cc pc = .ok (.getfield 19, 3))
    (kk : W p l e R s m args below meth c H locs cells slots Q (F0 m (pc + 3) ls (v :: rest))) : W p l e R s m args below meth c H locs cells slots Q (F0 m pc ls (.ref a :: rest)) :=
  va_get (T := TCh) (N := 7) hx hb hts inCh hown hG.1 hP q0 he rfl 2 (by decide) (hts _ kfCh_19) (fun _ h => h) hv hdg kk
theorem kfCh_22 : (Cond.fieldLink "CoverKeys$Channel" 22 "CoverKeys$Channel" "periods" "I") ∈ ckT := ck_m1 (List.mem_of_getElem? (i := 127) rfl) rfl
theorem gfCh_22 (hx : p.tables.exec = Jvm.exec) (hb : c.code = cc) (hts : ∀ w ∈ ckT, w.before args s = true) (hown : s.vm.findClass "CoverKeys$Channel" = some m.cls) (hG : gk G A s s.heap) (hP : va_P G.1 vwCl ws H) (q0 : Nat) (he : ws[q0]? = some (oC a 0 fs)) (hv : fs[3]? = some v) (hdg : decode cc pc = .ok (.getfield 22, 3))
    (kk : W p l e R s m args below meth c H locs cells slots Q (F0 m (pc + 3) ls (v :: rest))) : W p l e R s m args below meth c H locs cells slots Q (F0 m pc ls (.ref a :: rest)) :=
  va_get (T := TCh) (N := 7) hx hb hts inCh hown hG.1 hP q0 he rfl 3 (by decide) (hts _ kfCh_22) (fun _ h => h) hv hdg kk
theorem pfCh_22 (hx : p.tables.exec = Jvm.exec) (hb : c.code = cc) (hts : ∀ w ∈ ckT, w.before args s = true) (hown : s.vm.findClass "CoverKeys$Channel" = some m.cls) (hG : gk G A s s.heap) (hP : va_P G.1 vwCl ws H) (hD : va_D A ws) (hS : va_S A s.heap H locs) (q0 : Nat) (he : ws[q0]? = some (oC a 0 fs)) (hn : narrow (.int) v = v) (hfit : fits (.int) v = true) (hl : 3 < fs.length) (hdg : decode cc pc = .ok (.putfield 22, 3))
    (kk : ∀ (H1 : Heap) (locs1 : List Loc), va_P G.1 vwCl (ws.set q0 (oC a 0 (fs.set 3 v))) H1 → va_D A (ws.set q0 (oC a 0 (fs.set 3 v))) → va_S A s.heap H1 locs1 → W p l e R s m args below meth c H1 locs1 cells slots Q (F0 m (pc + 3) ls rest)) : W p l e R s m args below meth c H locs cells slots Q (F0 m pc ls (v :: .ref a :: rest)) :=
  va_put (T := TCh) (N := 7) hx hb hts inCh tyCh tyCh_ok nmCh hown hG.1 hP hD hS q0 he rfl 3 (by decide) (hts _ kfCh_22) (fun _ h => h) rfl (tyCh_ok 3 (by decide)) hn hfit hl hdg kk
theorem kfCh_26 : (Cond.fieldLink "CoverKeys$Channel" 26 "CoverKeys$Channel" "subsets" "I") ∈ ckT := ck_m1 (List.mem_of_getElem? (i := 129) rfl) rfl
theorem gfCh_26 (hx : p.tables.exec = Jvm.exec) (hb : c.code = cc) (hts : ∀ w ∈ ckT, w.before args s = true) (hown : s.vm.findClass "CoverKeys$Channel" = some m.cls) (hG : gk G A s s.heap) (hP : va_P G.1 vwCl ws H) (q0 : Nat) (he : ws[q0]? = some (oC a 0 fs)) (hv : fs[4]? = some v) (hdg : decode cc pc = .ok (.getfield 26, 3))
    (kk : W p l e R s m args below meth c H locs cells slots Q (F0 m (pc + 3) ls (v :: rest))) : W p l e R s m args below meth c H locs cells slots Q (F0 m pc ls (.ref a :: rest)) :=
  va_get (T := TCh) (N := 7) hx hb hts inCh hown hG.1 hP q0 he rfl 4 (by decide) (hts _ kfCh_26) (fun _ h => h) hv hdg kk
theorem pfCh_26 (hx : p.tables.exec = Jvm.exec) (hb : c.code = cc) (hts : ∀ w ∈ ckT, w.before args s = true) (hown : s.vm.findClass "CoverKeys$Channel" = some m.cls) (hG : gk G A s s.heap) (hP : va_P G.1 vwCl ws H) (hD : va_D A ws) (hS : va_S A s.heap H locs) (q0 : Nat) (he : ws[q0]? = some (oC a 0 fs)) (hn : narrow (.int) v = v) (hfit : fits (.int) v = true) (hl : 4 < fs.length) (hdg : decode cc pc = .ok (.putfield 26, 3))
    (kk : ∀ (H1 : Heap) (locs1 : List Loc), va_P G.1 vwCl (ws.set q0 (oC a 0 (fs.set 4 v))) H1 → va_D A (ws.set q0 (oC a 0 (fs.set 4 v))) → va_S A s.heap H1 locs1 → W p l e R s m args below meth c H1 locs1 cells slots Q (F0 m (pc + 3) ls rest)) : W p l e R s m args below meth c H locs cells slots Q (F0 m pc ls (v :: .ref a :: rest)) :=
  va_put (T := TCh) (N := 7) hx hb hts inCh tyCh tyCh_ok nmCh hown hG.1 hP hD hS q0 he rfl 4 (by decide) (hts _ kfCh_26) (fun _ h => h) rfl (tyCh_ok 4 (by decide)) hn hfit hl hdg kk
theorem kfCo_30 : (Cond.fieldLink "CoverKeys$Cover" 30 "CoverKeys$Channel" "subsets" "I") ∈ ckT := ck_m1 (List.mem_of_getElem? (i := 130) rfl) rfl
theorem gfCo_30 (hx : p.tables.exec = Jvm.exec) (hb : c.code = cc) (hts : ∀ w ∈ ckT, w.before args s = true) (hown : s.vm.findClass "CoverKeys$Cover" = some m.cls) (hG : gk G A s s.heap) (hP : va_P G.1 vwCl ws H) (q0 : Nat) (he : ws[q0]? = some (oC a 0 fs)) (hv : fs[4]? = some v) (hdg : decode cc pc = .ok (.getfield 30, 3))
    (kk : W p l e R s m args below meth c H locs cells slots Q (F0 m (pc + 3) ls (v :: rest))) : W p l e R s m args below meth c H locs cells slots Q (F0 m pc ls (.ref a :: rest)) :=
  va_get (T := TCh) (N := 7) hx hb hts inCh hown hG.1 hP q0 he rfl 4 (by decide) (hts _ kfCo_30) (fun _ h => h) hv hdg kk
theorem pfCo_30 (hx : p.tables.exec = Jvm.exec) (hb : c.code = cc) (hts : ∀ w ∈ ckT, w.before args s = true) (hown : s.vm.findClass "CoverKeys$Cover" = some m.cls) (hG : gk G A s s.heap) (hP : va_P G.1 vwCl ws H) (hD : va_D A ws) (hS : va_S A s.heap H locs) (q0 : Nat) (he : ws[q0]? = some (oC a 0 fs)) (hn : narrow (.int) v = v) (hfit : fits (.int) v = true) (hl : 4 < fs.length) (hdg : decode cc pc = .ok (.putfield 30, 3))
    (kk : ∀ (H1 : Heap) (locs1 : List Loc), va_P G.1 vwCl (ws.set q0 (oC a 0 (fs.set 4 v))) H1 → va_D A (ws.set q0 (oC a 0 (fs.set 4 v))) → va_S A s.heap H1 locs1 → W p l e R s m args below meth c H1 locs1 cells slots Q (F0 m (pc + 3) ls rest)) : W p l e R s m args below meth c H locs cells slots Q (F0 m pc ls (v :: .ref a :: rest)) :=
  va_put (T := TCh) (N := 7) hx hb hts inCh tyCh tyCh_ok nmCh hown hG.1 hP hD hS q0 he rfl 4 (by decide) (hts _ kfCo_30) (fun _ h => h) rfl (tyCh_ok 4 (by decide)) hn hfit hl hdg kk
theorem kfCh_29 : (Cond.fieldLink "CoverKeys$Channel" 29 "CoverKeys$Channel" "high" "J") ∈ ckT := ck_m1 (List.mem_of_getElem? (i := 132) rfl) rfl
theorem gfCh_29 (hx : p.tables.exec = Jvm.exec) (hb : c.code = cc) (hts : ∀ w ∈ ckT, w.before args s = true) (hown : s.vm.findClass "CoverKeys$Channel" = some m.cls) (hG : gk G A s s.heap) (hP : va_P G.1 vwCl ws H) (q0 : Nat) (he : ws[q0]? = some (oC a 0 fs)) (hv : fs[5]? = some v) (hdg : decode cc pc = .ok (.getfield 29, 3))
    (kk : W p l e R s m args below meth c H locs cells slots Q (F0 m (pc + 3) ls (v :: rest))) : W p l e R s m args below meth c H locs cells slots Q (F0 m pc ls (.ref a :: rest)) :=
  va_get (T := TCh) (N := 7) hx hb hts inCh hown hG.1 hP q0 he rfl 5 (by decide) (hts _ kfCh_29) (fun _ h => h) hv hdg kk
theorem pfCh_29 (hx : p.tables.exec = Jvm.exec) (hb : c.code = cc) (hts : ∀ w ∈ ckT, w.before args s = true) (hown : s.vm.findClass "CoverKeys$Channel" = some m.cls) (hG : gk G A s s.heap) (hP : va_P G.1 vwCl ws H) (hD : va_D A ws) (hS : va_S A s.heap H locs) (q0 : Nat) (he : ws[q0]? = some (oC a 0 fs)) (hn : narrow (.long) v = v) (hfit : fits (.long) v = true) (hl : 5 < fs.length) (hdg : decode cc pc = .ok (.putfield 29, 3))
    (kk : ∀ (H1 : Heap) (locs1 : List Loc), va_P G.1 vwCl (ws.set q0 (oC a 0 (fs.set 5 v))) H1 → va_D A (ws.set q0 (oC a 0 (fs.set 5 v))) → va_S A s.heap H1 locs1 → W p l e R s m args below meth c H1 locs1 cells slots Q (F0 m (pc + 3) ls rest)) : W p l e R s m args below meth c H locs cells slots Q (F0 m pc ls (v :: .ref a :: rest)) :=
  va_put (T := TCh) (N := 7) hx hb hts inCh tyCh tyCh_ok nmCh hown hG.1 hP hD hS q0 he rfl 5 (by decide) (hts _ kfCh_29) (fun _ h => h) rfl (tyCh_ok 5 (by decide)) hn hfit hl hdg kk
theorem kfCh_33 : (Cond.fieldLink "CoverKeys$Channel" 33 "CoverKeys$Channel" "low" "J") ∈ ckT := ck_m1 (List.mem_of_getElem? (i := 134) rfl) rfl
theorem gfCh_33 (hx : p.tables.exec = Jvm.exec) (hb : c.code = cc) (hts : ∀ w ∈ ckT, w.before args s = true) (hown : s.vm.findClass "CoverKeys$Channel" = some m.cls) (hG : gk G A s s.heap) (hP : va_P G.1 vwCl ws H) (q0 : Nat) (he : ws[q0]? = some (oC a 0 fs)) (hv : fs[6]? = some v) (hdg : decode cc pc = .ok (.getfield 33, 3))
    (kk : W p l e R s m args below meth c H locs cells slots Q (F0 m (pc + 3) ls (v :: rest))) : W p l e R s m args below meth c H locs cells slots Q (F0 m pc ls (.ref a :: rest)) :=
  va_get (T := TCh) (N := 7) hx hb hts inCh hown hG.1 hP q0 he rfl 6 (by decide) (hts _ kfCh_33) (fun _ h => h) hv hdg kk
theorem pfCh_33 (hx : p.tables.exec = Jvm.exec) (hb : c.code = cc) (hts : ∀ w ∈ ckT, w.before args s = true) (hown : s.vm.findClass "CoverKeys$Channel" = some m.cls) (hG : gk G A s s.heap) (hP : va_P G.1 vwCl ws H) (hD : va_D A ws) (hS : va_S A s.heap H locs) (q0 : Nat) (he : ws[q0]? = some (oC a 0 fs)) (hn : narrow (.long) v = v) (hfit : fits (.long) v = true) (hl : 6 < fs.length) (hdg : decode cc pc = .ok (.putfield 33, 3))
    (kk : ∀ (H1 : Heap) (locs1 : List Loc), va_P G.1 vwCl (ws.set q0 (oC a 0 (fs.set 6 v))) H1 → va_D A (ws.set q0 (oC a 0 (fs.set 6 v))) → va_S A s.heap H1 locs1 → W p l e R s m args below meth c H1 locs1 cells slots Q (F0 m (pc + 3) ls rest)) : W p l e R s m args below meth c H locs cells slots Q (F0 m pc ls (v :: .ref a :: rest)) :=
  va_put (T := TCh) (N := 7) hx hb hts inCh tyCh tyCh_ok nmCh hown hG.1 hP hD hS q0 he rfl 6 (by decide) (hts _ kfCh_33) (fun _ h => h) rfl (tyCh_ok 6 (by decide)) hn hfit hl hdg kk
theorem kfDe_9 : (Cond.fieldLink "CoverKeys$Decoder" 9 "CoverKeys$Decoder" "periods" "[I") ∈ ckT := ck_m2 (List.mem_of_getElem? (i := 86) rfl) rfl
theorem gfDe_9 (hx : p.tables.exec = Jvm.exec) (hb : c.code = cc) (hts : ∀ w ∈ ckT, w.before args s = true) (hown : s.vm.findClass "CoverKeys$Decoder" = some m.cls) (hG : gk G A s s.heap) (hP : va_P G.1 vwCl ws H) (q0 : Nat) (he : ws[q0]? = some (oC a 3 fs)) (hv : fs[0]? = some v) (hdg : decode cc pc = .ok (.getfield 9, 3))
    (kk : W p l e R s m args below meth c H locs cells slots Q (F0 m (pc + 3) ls (v :: rest))) : W p l e R s m args below meth c H locs cells slots Q (F0 m pc ls (.ref a :: rest)) :=
  va_get (T := TDe) (N := 3) hx hb hts inDe hown hG.1 hP q0 he rfl 0 (by decide) (hts _ kfDe_9) (fun _ h => h) hv hdg kk
theorem kfDe_15 : (Cond.fieldLink "CoverKeys$Decoder" 15 "CoverKeys$Decoder" "highs" "[J") ∈ ckT := ck_m2 (List.mem_of_getElem? (i := 88) rfl) rfl
theorem gfDe_15 (hx : p.tables.exec = Jvm.exec) (hb : c.code = cc) (hts : ∀ w ∈ ckT, w.before args s = true) (hown : s.vm.findClass "CoverKeys$Decoder" = some m.cls) (hG : gk G A s s.heap) (hP : va_P G.1 vwCl ws H) (q0 : Nat) (he : ws[q0]? = some (oC a 3 fs)) (hv : fs[1]? = some v) (hdg : decode cc pc = .ok (.getfield 15, 3))
    (kk : W p l e R s m args below meth c H locs cells slots Q (F0 m (pc + 3) ls (v :: rest))) : W p l e R s m args below meth c H locs cells slots Q (F0 m pc ls (.ref a :: rest)) :=
  va_get (T := TDe) (N := 3) hx hb hts inDe hown hG.1 hP q0 he rfl 1 (by decide) (hts _ kfDe_15) (fun _ h => h) hv hdg kk
theorem kfDe_19 : (Cond.fieldLink "CoverKeys$Decoder" 19 "CoverKeys$Decoder" "lows" "[J") ∈ ckT := ck_m2 (List.mem_of_getElem? (i := 90) rfl) rfl
theorem gfDe_19 (hx : p.tables.exec = Jvm.exec) (hb : c.code = cc) (hts : ∀ w ∈ ckT, w.before args s = true) (hown : s.vm.findClass "CoverKeys$Decoder" = some m.cls) (hG : gk G A s s.heap) (hP : va_P G.1 vwCl ws H) (q0 : Nat) (he : ws[q0]? = some (oC a 3 fs)) (hv : fs[2]? = some v) (hdg : decode cc pc = .ok (.getfield 19, 3))
    (kk : W p l e R s m args below meth c H locs cells slots Q (F0 m (pc + 3) ls (v :: rest))) : W p l e R s m args below meth c H locs cells slots Q (F0 m pc ls (.ref a :: rest)) :=
  va_get (T := TDe) (N := 3) hx hb hts inDe hown hG.1 hP q0 he rfl 2 (by decide) (hts _ kfDe_19) (fun _ h => h) hv hdg kk
end FLD
section CLL
variable {p : Program} {l : Launch} {e : Env} {R : Room} {s : State} {m : MethodId} {args : Array Value} {below : List Frame} {meth : Method} {c : Code} {H : Heap} {locs : List Loc} {cells slots : Nat} {Q : State → Prop}
variable {cc : ByteArray} {pc nL n : Nat} {ls : Array Slot} {rest st0 As : List Value} {G : gG} {A : Nat → Prop} {ws wi : va_W} {S : Type} {φ : S → Prop} {r : S → Option Value} {wo : S → va_W} {rm : Room} {b : Nat} {fs : List Value}
theorem kcTr_leaves : Cond.code yTr_leaves cTr_leaves 1 (some .int) ∈ ckT := ck_m2 (List.mem_of_getElem? (i := 48) rfl) rfl
theorem kiTr_leaves : Cond.instanceMethod yTr_leaves ∈ ckT := ck_m2 (List.mem_of_getElem? (i := 46) rfl) rfl
theorem keTr_leaves : Cond.selects "CoverKeys$Tree" yTr_leaves yTr_leaves ∈ ckT := ck_m2 (List.mem_of_getElem? (i := 47) rfl) rfl
theorem knTr : Cond.initialized "CoverKeys$Tree" ∈ ckT := ck_m1 (List.mem_of_getElem? (i := 3) rfl) rfl
theorem kmCo_15 : Cond.methodLink "CoverKeys$Cover" 15 yTr_leaves ∈ ckT := ck_m2 (List.mem_of_getElem? (i := 150) rfl) rfl
theorem clCo_15 (hx : p.tables.exec = Jvm.exec) (hb : c.code = cc) (hml : c.maxLocals = nL) (hown : s.vm.findClass "CoverKeys$Cover" = some m.cls) (hts : ∀ w ∈ ckT, w.before args s = true) (hM : Cq l G yTr_leaves cTr_leaves 1 (some .int) rm (.ref b :: As) wi φ r wo) (hG : gk G A s s.heap) (hA : ∀ q : Nat, s.heap.size ≤ q → A q) (hP : va_P G.1 vwCl ws H) (hD : va_D A ws) (hS : va_S A s.heap H locs) (q0 : Nat) (hq : ws[q0]? = some (oC b 6 fs)) (is : List Nat) (hC : is.map (fun i => ws[i]?) = wi.map some) (hnd : va_nd is = true) (ha : ∀ u, (wo u).map (·.1) = wi.map (·.1)) (hn : As.length = 0) (hsize : ls.size = nL) (hst : st0 = As.reverse ++ .ref b :: rest) (hrm : (rest.map fun v => v.category).sum ≤ 8) (hR : rm.frames + 1 ≤ R.frames ∧ 8 + (1 + 11) + rm.locals ≤ R.locals) (hf : cells + rm.cells ≤ R.cells ∧ slots + rm.slots ≤ R.slots) (hdg : decode cc pc = .ok (.invokevirtual 15, 3)) (kk : ∀ (u : S) (H1 : Heap) (locs1 : List Loc), φ u → va_P G.1 vwCl (ck_set ws is (wo u)) H1 → va_D A (ck_set ws is (wo u)) → va_S A s.heap H1 locs1 → W p l e R s m args below meth c H1 locs1 (cells + rm.cells) (slots + rm.slots) Q (F0 m (pc + 3) ls ((r u).toList ++ rest))) :
    W p l e R s m args below meth c H locs cells slots Q (F0 m pc ls st0) :=
  cq_V (T := TTr) (N := 3) ⟨hx, hb, hml, hown, hts⟩ hM ⟨callB_of 0 hts (ck_gd0 kcTr_leaves) rfl rfl rfl (hts _ knTr) (hts _ kmCo_15) ⟨by decide, by decide, by decide +kernel⟩ hR, hts _ kiTr_leaves, hts _ keTr_leaves⟩ hG hA hP hD hS hq rfl is hC hnd ha hn hsize hst hrm hdg hf kk
theorem kcCo_markNodes : Cond.code yCo_markNodes cCo_markNodes 4 none ∈ ckT := ck_m2 (List.mem_of_getElem? (i := 154) rfl) rfl
theorem kiCo_markNodes : Cond.instanceMethod yCo_markNodes ∈ ckT := ck_m2 (List.mem_of_getElem? (i := 153) rfl) rfl
theorem keCo_markNodes : Cond.selects "CoverKeys$Cover" yCo_markNodes yCo_markNodes ∈ ckT := ck_ms (List.mem_of_getElem? (i := 2) rfl) rfl
theorem knCo : Cond.initialized "CoverKeys$Cover" ∈ ckT := ck_m1 (List.mem_of_getElem? (i := 4) rfl) rfl
theorem kmCo_26 : Cond.methodLink "CoverKeys$Cover" 26 yCo_markNodes ∈ ckT := ck_m2 (List.mem_of_getElem? (i := 151) rfl) rfl
theorem clCo_26 (hx : p.tables.exec = Jvm.exec) (hb : c.code = cc) (hml : c.maxLocals = nL) (hown : s.vm.findClass "CoverKeys$Cover" = some m.cls) (hts : ∀ w ∈ ckT, w.before args s = true) (hM : Cq l G yCo_markNodes cCo_markNodes 4 none rm (.ref b :: As) wi φ r wo) (hG : gk G A s s.heap) (hA : ∀ q : Nat, s.heap.size ≤ q → A q) (hP : va_P G.1 vwCl ws H) (hD : va_D A ws) (hS : va_S A s.heap H locs) (q0 : Nat) (hq : ws[q0]? = some (oC b 2 fs)) (is : List Nat) (hC : is.map (fun i => ws[i]?) = wi.map some) (hnd : va_nd is = true) (ha : ∀ u, (wo u).map (·.1) = wi.map (·.1)) (hn : As.length = 2) (hsize : ls.size = nL) (hst : st0 = As.reverse ++ .ref b :: rest) (hrm : (rest.map fun v => v.category).sum ≤ 8) (hR : rm.frames + 1 ≤ R.frames ∧ 8 + (4 + 11) + rm.locals ≤ R.locals) (hf : cells + rm.cells ≤ R.cells ∧ slots + rm.slots ≤ R.slots) (hdg : decode cc pc = .ok (.invokevirtual 26, 3)) (kk : ∀ (u : S) (H1 : Heap) (locs1 : List Loc), φ u → va_P G.1 vwCl (ck_set ws is (wo u)) H1 → va_D A (ck_set ws is (wo u)) → va_S A s.heap H1 locs1 → W p l e R s m args below meth c H1 locs1 (cells + rm.cells) (slots + rm.slots) Q (F0 m (pc + 3) ls ((r u).toList ++ rest))) :
    W p l e R s m args below meth c H locs cells slots Q (F0 m pc ls st0) :=
  cq_V (T := TCo) (N := 1) ⟨hx, hb, hml, hown, hts⟩ hM ⟨callB_of 2 hts (ck_gd0 kcCo_markNodes) rfl rfl rfl (hts _ knCo) (hts _ kmCo_26) ⟨by decide, by decide, by decide +kernel⟩ hR, hts _ kiCo_markNodes, hts _ keCo_markNodes⟩ hG hA hP hD hS hq rfl is hC hnd ha hn hsize hst hrm hdg hf kk
theorem kcCh_addSubset : Cond.code yCh_addSubset cCh_addSubset 3 none ∈ ckT := ck_m2 (List.mem_of_getElem? (i := 158) rfl) rfl
theorem kiCh_addSubset : Cond.instanceMethod yCh_addSubset ∈ ckT := ck_m2 (List.mem_of_getElem? (i := 156) rfl) rfl
theorem keCh_addSubset : Cond.selects "CoverKeys$Channel" yCh_addSubset yCh_addSubset ∈ ckT := ck_m2 (List.mem_of_getElem? (i := 157) rfl) rfl
theorem knCh : Cond.initialized "CoverKeys$Channel" ∈ ckT := ck_m1 (List.mem_of_getElem? (i := 7) rfl) rfl
theorem kmCo_34 : Cond.methodLink "CoverKeys$Cover" 34 yCh_addSubset ∈ ckT := ck_m2 (List.mem_of_getElem? (i := 155) rfl) rfl
theorem clCo_34 (hx : p.tables.exec = Jvm.exec) (hb : c.code = cc) (hml : c.maxLocals = nL) (hown : s.vm.findClass "CoverKeys$Cover" = some m.cls) (hts : ∀ w ∈ ckT, w.before args s = true) (hM : Cq l G yCh_addSubset cCh_addSubset 3 none rm (.ref b :: As) wi φ r wo) (hG : gk G A s s.heap) (hA : ∀ q : Nat, s.heap.size ≤ q → A q) (hP : va_P G.1 vwCl ws H) (hD : va_D A ws) (hS : va_S A s.heap H locs) (q0 : Nat) (hq : ws[q0]? = some (oC b 0 fs)) (is : List Nat) (hC : is.map (fun i => ws[i]?) = wi.map some) (hnd : va_nd is = true) (ha : ∀ u, (wo u).map (·.1) = wi.map (·.1)) (hn : As.length = 2) (hsize : ls.size = nL) (hst : st0 = As.reverse ++ .ref b :: rest) (hrm : (rest.map fun v => v.category).sum ≤ 8) (hR : rm.frames + 1 ≤ R.frames ∧ 8 + (3 + 11) + rm.locals ≤ R.locals) (hf : cells + rm.cells ≤ R.cells ∧ slots + rm.slots ≤ R.slots) (hdg : decode cc pc = .ok (.invokevirtual 34, 3)) (kk : ∀ (u : S) (H1 : Heap) (locs1 : List Loc), φ u → va_P G.1 vwCl (ck_set ws is (wo u)) H1 → va_D A (ck_set ws is (wo u)) → va_S A s.heap H1 locs1 → W p l e R s m args below meth c H1 locs1 (cells + rm.cells) (slots + rm.slots) Q (F0 m (pc + 3) ls ((r u).toList ++ rest))) :
    W p l e R s m args below meth c H locs cells slots Q (F0 m pc ls st0) :=
  cq_V (T := TCh) (N := 7) ⟨hx, hb, hml, hown, hts⟩ hM ⟨callB_of 2 hts (ck_gd0 kcCh_addSubset) rfl rfl rfl (hts _ knCh) (hts _ kmCo_34) ⟨by decide, by decide, by decide +kernel⟩ hR, hts _ kiCh_addSubset, hts _ keCh_addSubset⟩ hG hA hP hD hS hq rfl is hC hnd ha hn hsize hst hrm hdg hf kk
theorem kcCo_lastBelow : Cond.code yCo_lastBelow cCo_lastBelow 7 (some .int) ∈ ckT := ck_m2 (List.mem_of_getElem? (i := 162) rfl) rfl
theorem kiCo_lastBelow : Cond.instanceMethod yCo_lastBelow ∈ ckT := ck_m2 (List.mem_of_getElem? (i := 161) rfl) rfl
theorem keCo_lastBelow : Cond.selects "CoverKeys$Cover" yCo_lastBelow yCo_lastBelow ∈ ckT := ck_ms (List.mem_of_getElem? (i := 3) rfl) rfl
theorem kmCo_38 : Cond.methodLink "CoverKeys$Cover" 38 yCo_lastBelow ∈ ckT := ck_m2 (List.mem_of_getElem? (i := 159) rfl) rfl
theorem clCo_38 (hx : p.tables.exec = Jvm.exec) (hb : c.code = cc) (hml : c.maxLocals = nL) (hown : s.vm.findClass "CoverKeys$Cover" = some m.cls) (hts : ∀ w ∈ ckT, w.before args s = true) (hM : Cq l G yCo_lastBelow cCo_lastBelow 7 (some .int) rm (.ref b :: As) wi φ r wo) (hG : gk G A s s.heap) (hA : ∀ q : Nat, s.heap.size ≤ q → A q) (hP : va_P G.1 vwCl ws H) (hD : va_D A ws) (hS : va_S A s.heap H locs) (q0 : Nat) (hq : ws[q0]? = some (oC b 2 fs)) (is : List Nat) (hC : is.map (fun i => ws[i]?) = wi.map some) (hnd : va_nd is = true) (ha : ∀ u, (wo u).map (·.1) = wi.map (·.1)) (hn : As.length = 2) (hsize : ls.size = nL) (hst : st0 = As.reverse ++ .ref b :: rest) (hrm : (rest.map fun v => v.category).sum ≤ 8) (hR : rm.frames + 1 ≤ R.frames ∧ 8 + (7 + 11) + rm.locals ≤ R.locals) (hf : cells + rm.cells ≤ R.cells ∧ slots + rm.slots ≤ R.slots) (hdg : decode cc pc = .ok (.invokevirtual 38, 3)) (kk : ∀ (u : S) (H1 : Heap) (locs1 : List Loc), φ u → va_P G.1 vwCl (ck_set ws is (wo u)) H1 → va_D A (ck_set ws is (wo u)) → va_S A s.heap H1 locs1 → W p l e R s m args below meth c H1 locs1 (cells + rm.cells) (slots + rm.slots) Q (F0 m (pc + 3) ls ((r u).toList ++ rest))) :
    W p l e R s m args below meth c H locs cells slots Q (F0 m pc ls st0) :=
  cq_V (T := TCo) (N := 1) ⟨hx, hb, hml, hown, hts⟩ hM ⟨callB_of 2 hts (ck_gd0 kcCo_lastBelow) rfl rfl rfl (hts _ knCo) (hts _ kmCo_38) ⟨by decide, by decide, by decide +kernel⟩ hR, hts _ kiCo_lastBelow, hts _ keCo_lastBelow⟩ hG hA hP hD hS hq rfl is hC hnd ha hn hsize hst hrm hdg hf kk
theorem kcCi_setKey : Cond.code yCi_setKey cCi_setKey 9 none ∈ ckT := ck_m2 (List.mem_of_getElem? (i := 201) rfl) rfl
theorem kiCi_setKey : Cond.instanceMethod yCi_setKey ∈ ckT := ck_m2 (List.mem_of_getElem? (i := 199) rfl) rfl
theorem keCi_setKey : Cond.selects "CoverKeys$Cipher" yCi_setKey yCi_setKey ∈ ckT := ck_m2 (List.mem_of_getElem? (i := 200) rfl) rfl
theorem kmTr_41 : Cond.methodLink "CoverKeys$Tree" 41 yCi_setKey ∈ ckT := ck_m2 (List.mem_of_getElem? (i := 198) rfl) rfl
theorem clTr_41 (hx : p.tables.exec = Jvm.exec) (hb : c.code = cc) (hml : c.maxLocals = nL) (hown : s.vm.findClass "CoverKeys$Tree" = some m.cls) (hts : ∀ w ∈ ckT, w.before args s = true) (hM : Cq l G yCi_setKey cCi_setKey 9 none rm (.ref b :: As) wi φ r wo) (hG : gk G A s s.heap) (hA : ∀ q : Nat, s.heap.size ≤ q → A q) (hP : va_P G.1 vwCl ws H) (hD : va_D A ws) (hS : va_S A s.heap H locs) (q0 : Nat) (hq : ws[q0]? = some (oC b 1 fs)) (is : List Nat) (hC : is.map (fun i => ws[i]?) = wi.map some) (hnd : va_nd is = true) (ha : ∀ u, (wo u).map (·.1) = wi.map (·.1)) (hn : As.length = 2) (hsize : ls.size = nL) (hst : st0 = As.reverse ++ .ref b :: rest) (hrm : (rest.map fun v => v.category).sum ≤ 8) (hR : rm.frames + 1 ≤ R.frames ∧ 8 + (9 + 11) + rm.locals ≤ R.locals) (hf : cells + rm.cells ≤ R.cells ∧ slots + rm.slots ≤ R.slots) (hdg : decode cc pc = .ok (.invokevirtual 41, 3)) (kk : ∀ (u : S) (H1 : Heap) (locs1 : List Loc), φ u → va_P G.1 vwCl (ck_set ws is (wo u)) H1 → va_D A (ck_set ws is (wo u)) → va_S A s.heap H1 locs1 → W p l e R s m args below meth c H1 locs1 (cells + rm.cells) (slots + rm.slots) Q (F0 m (pc + 3) ls ((r u).toList ++ rest))) :
    W p l e R s m args below meth c H locs cells slots Q (F0 m pc ls st0) :=
  cq_V (T := TCi) (N := 3) ⟨hx, hb, hml, hown, hts⟩ hM ⟨callB_of 2 hts (ck_gd0 kcCi_setKey) rfl rfl rfl (hts _ knCi) (hts _ kmTr_41) ⟨by decide, by decide, by decide +kernel⟩ hR, hts _ kiCi_setKey, hts _ keCi_setKey⟩ hG hA hP hD hS hq rfl is hC hnd ha hn hsize hst hrm hdg hf kk
theorem kcCi_encrypt : Cond.code yCi_encrypt cCi_encrypt 15 none ∈ ckT := ck_m2 (List.mem_of_getElem? (i := 218) rfl) rfl
theorem kiCi_encrypt : Cond.instanceMethod yCi_encrypt ∈ ckT := ck_m2 (List.mem_of_getElem? (i := 216) rfl) rfl
theorem keCi_encrypt : Cond.selects "CoverKeys$Cipher" yCi_encrypt yCi_encrypt ∈ ckT := ck_m2 (List.mem_of_getElem? (i := 217) rfl) rfl
theorem kmTr_47 : Cond.methodLink "CoverKeys$Tree" 47 yCi_encrypt ∈ ckT := ck_m2 (List.mem_of_getElem? (i := 215) rfl) rfl
theorem clTr_47 (hx : p.tables.exec = Jvm.exec) (hb : c.code = cc) (hml : c.maxLocals = nL) (hown : s.vm.findClass "CoverKeys$Tree" = some m.cls) (hts : ∀ w ∈ ckT, w.before args s = true) (hM : Cq l G yCi_encrypt cCi_encrypt 15 none rm (.ref b :: As) wi φ r wo) (hG : gk G A s s.heap) (hA : ∀ q : Nat, s.heap.size ≤ q → A q) (hP : va_P G.1 vwCl ws H) (hD : va_D A ws) (hS : va_S A s.heap H locs) (q0 : Nat) (hq : ws[q0]? = some (oC b 1 fs)) (is : List Nat) (hC : is.map (fun i => ws[i]?) = wi.map some) (hnd : va_nd is = true) (ha : ∀ u, (wo u).map (·.1) = wi.map (·.1)) (hn : As.length = 2) (hsize : ls.size = nL) (hst : st0 = As.reverse ++ .ref b :: rest) (hrm : (rest.map fun v => v.category).sum ≤ 8) (hR : rm.frames + 1 ≤ R.frames ∧ 8 + (15 + 11) + rm.locals ≤ R.locals) (hf : cells + rm.cells ≤ R.cells ∧ slots + rm.slots ≤ R.slots) (hdg : decode cc pc = .ok (.invokevirtual 47, 3)) (kk : ∀ (u : S) (H1 : Heap) (locs1 : List Loc), φ u → va_P G.1 vwCl (ck_set ws is (wo u)) H1 → va_D A (ck_set ws is (wo u)) → va_S A s.heap H1 locs1 → W p l e R s m args below meth c H1 locs1 (cells + rm.cells) (slots + rm.slots) Q (F0 m (pc + 3) ls ((r u).toList ++ rest))) :
    W p l e R s m args below meth c H locs cells slots Q (F0 m pc ls st0) :=
  cq_V (T := TCi) (N := 3) ⟨hx, hb, hml, hown, hts⟩ hM ⟨callB_of 2 hts (ck_gd0 kcCi_encrypt) rfl rfl rfl (hts _ knCi) (hts _ kmTr_47) ⟨by decide, by decide, by decide +kernel⟩ hR, hts _ kiCi_encrypt, hts _ keCi_encrypt⟩ hG hA hP hD hS hq rfl is hC hnd ha hn hsize hst hrm hdg hf kk
theorem kcTr_findLabel : Cond.code yTr_findLabel cTr_findLabel 5 none ∈ ckT := ck_m2 (List.mem_of_getElem? (i := 230) rfl) rfl
theorem kiTr_findLabel : Cond.instanceMethod yTr_findLabel ∈ ckT := ck_m2 (List.mem_of_getElem? (i := 228) rfl) rfl
theorem keTr_findLabel : Cond.selects "CoverKeys$Tree" yTr_findLabel yTr_findLabel ∈ ckT := ck_m2 (List.mem_of_getElem? (i := 229) rfl) rfl
theorem kmTr_56 : Cond.methodLink "CoverKeys$Tree" 56 yTr_findLabel ∈ ckT := ck_m2 (List.mem_of_getElem? (i := 227) rfl) rfl
theorem clTr_56 (hx : p.tables.exec = Jvm.exec) (hb : c.code = cc) (hml : c.maxLocals = nL) (hown : s.vm.findClass "CoverKeys$Tree" = some m.cls) (hts : ∀ w ∈ ckT, w.before args s = true) (hM : Cq l G yTr_findLabel cTr_findLabel 5 none rm (.ref b :: As) wi φ r wo) (hG : gk G A s s.heap) (hA : ∀ q : Nat, s.heap.size ≤ q → A q) (hP : va_P G.1 vwCl ws H) (hD : va_D A ws) (hS : va_S A s.heap H locs) (q0 : Nat) (hq : ws[q0]? = some (oC b 6 fs)) (is : List Nat) (hC : is.map (fun i => ws[i]?) = wi.map some) (hnd : va_nd is = true) (ha : ∀ u, (wo u).map (·.1) = wi.map (·.1)) (hn : As.length = 3) (hsize : ls.size = nL) (hst : st0 = As.reverse ++ .ref b :: rest) (hrm : (rest.map fun v => v.category).sum ≤ 8) (hR : rm.frames + 1 ≤ R.frames ∧ 8 + (5 + 11) + rm.locals ≤ R.locals) (hf : cells + rm.cells ≤ R.cells ∧ slots + rm.slots ≤ R.slots) (hdg : decode cc pc = .ok (.invokevirtual 56, 3)) (kk : ∀ (u : S) (H1 : Heap) (locs1 : List Loc), φ u → va_P G.1 vwCl (ck_set ws is (wo u)) H1 → va_D A (ck_set ws is (wo u)) → va_S A s.heap H1 locs1 → W p l e R s m args below meth c H1 locs1 (cells + rm.cells) (slots + rm.slots) Q (F0 m (pc + 3) ls ((r u).toList ++ rest))) :
    W p l e R s m args below meth c H locs cells slots Q (F0 m pc ls st0) :=
  cq_V (T := TTr) (N := 3) ⟨hx, hb, hml, hown, hts⟩ hM ⟨callB_of 3 hts (ck_gd0 kcTr_findLabel) rfl rfl rfl (hts _ knTr) (hts _ kmTr_56) ⟨by decide, by decide, by decide +kernel⟩ hR, hts _ kiTr_findLabel, hts _ keTr_findLabel⟩ hG hA hP hD hS hq rfl is hC hnd ha hn hsize hst hrm hdg hf kk
theorem kcTr_levelsBelow : Cond.code yTr_levelsBelow cTr_levelsBelow 3 (some .int) ∈ ckT := ck_m2 (List.mem_of_getElem? (i := 233) rfl) rfl
theorem ksTr_levelsBelow : Cond.static yTr_levelsBelow ∈ ckT := ck_m2 (List.mem_of_getElem? (i := 232) rfl) rfl
theorem kmTr_26 : Cond.methodLink "CoverKeys$Tree" 26 yTr_levelsBelow ∈ ckT := ck_m2 (List.mem_of_getElem? (i := 231) rfl) rfl
theorem clTr_26 (hx : p.tables.exec = Jvm.exec) (hb : c.code = cc) (hml : c.maxLocals = nL) (hown : s.vm.findClass "CoverKeys$Tree" = some m.cls) (hts : ∀ w ∈ ckT, w.before args s = true) (hM : Cq l G yTr_levelsBelow cTr_levelsBelow 3 (some .int) rm As wi φ r wo) (hG : gk G A s s.heap) (hA : ∀ q : Nat, s.heap.size ≤ q → A q) (hP : va_P G.1 vwCl ws H) (hD : va_D A ws) (hS : va_S A s.heap H locs) (is : List Nat) (hC : is.map (fun i => ws[i]?) = wi.map some) (hnd : va_nd is = true) (ha : ∀ u, (wo u).map (·.1) = wi.map (·.1)) (hn : As.length = 2) (hsize : ls.size = nL) (hst : st0 = As.reverse ++ rest) (hrm : (rest.map fun v => v.category).sum ≤ 8) (hR : rm.frames + 1 ≤ R.frames ∧ 8 + (3 + 11) + rm.locals ≤ R.locals) (hf : cells + rm.cells ≤ R.cells ∧ slots + rm.slots ≤ R.slots) (hdg : decode cc pc = .ok (.invokestatic 26, 3)) (kk : ∀ (u : S) (H1 : Heap) (locs1 : List Loc), φ u → va_P G.1 vwCl (ck_set ws is (wo u)) H1 → va_D A (ck_set ws is (wo u)) → va_S A s.heap H1 locs1 → W p l e R s m args below meth c H1 locs1 (cells + rm.cells) (slots + rm.slots) Q (F0 m (pc + 3) ls ((r u).toList ++ rest))) :
    W p l e R s m args below meth c H locs cells slots Q (F0 m pc ls st0) :=
  cq_S ⟨hx, hb, hml, hown, hts⟩ hM ⟨callB_of 2 hts (ck_gd0 kcTr_levelsBelow) rfl rfl rfl (hts _ knTr) (hts _ kmTr_26) ⟨by decide, by decide, by decide +kernel⟩ hR, hts _ ksTr_levelsBelow⟩ hG hA hP hD hS is hC hnd ha hn hsize hst hrm hdg hf kk
theorem kmEn_21 : Cond.methodLink "CoverKeys$Envelope" 21 yCi_encrypt ∈ ckT := ck_m3 (List.mem_of_getElem? (i := 1) rfl) rfl
theorem clEn_21 (hx : p.tables.exec = Jvm.exec) (hb : c.code = cc) (hml : c.maxLocals = nL) (hown : s.vm.findClass "CoverKeys$Envelope" = some m.cls) (hts : ∀ w ∈ ckT, w.before args s = true) (hM : Cq l G yCi_encrypt cCi_encrypt 15 none rm (.ref b :: As) wi φ r wo) (hG : gk G A s s.heap) (hA : ∀ q : Nat, s.heap.size ≤ q → A q) (hP : va_P G.1 vwCl ws H) (hD : va_D A ws) (hS : va_S A s.heap H locs) (q0 : Nat) (hq : ws[q0]? = some (oC b 1 fs)) (is : List Nat) (hC : is.map (fun i => ws[i]?) = wi.map some) (hnd : va_nd is = true) (ha : ∀ u, (wo u).map (·.1) = wi.map (·.1)) (hn : As.length = 2) (hsize : ls.size = nL) (hst : st0 = As.reverse ++ .ref b :: rest) (hrm : (rest.map fun v => v.category).sum ≤ 8) (hR : rm.frames + 1 ≤ R.frames ∧ 8 + (15 + 11) + rm.locals ≤ R.locals) (hf : cells + rm.cells ≤ R.cells ∧ slots + rm.slots ≤ R.slots) (hdg : decode cc pc = .ok (.invokevirtual 21, 3)) (kk : ∀ (u : S) (H1 : Heap) (locs1 : List Loc), φ u → va_P G.1 vwCl (ck_set ws is (wo u)) H1 → va_D A (ck_set ws is (wo u)) → va_S A s.heap H1 locs1 → W p l e R s m args below meth c H1 locs1 (cells + rm.cells) (slots + rm.slots) Q (F0 m (pc + 3) ls ((r u).toList ++ rest))) :
    W p l e R s m args below meth c H locs cells slots Q (F0 m pc ls st0) :=
  cq_V (T := TCi) (N := 3) ⟨hx, hb, hml, hown, hts⟩ hM ⟨callB_of 2 hts (ck_gd0 kcCi_encrypt) rfl rfl rfl (hts _ knCi) (hts _ kmEn_21) ⟨by decide, by decide, by decide +kernel⟩ hR, hts _ kiCi_encrypt, hts _ keCi_encrypt⟩ hG hA hP hD hS hq rfl is hC hnd ha hn hsize hst hrm hdg hf kk
theorem kcEn_keepHalf : Cond.code yEn_keepHalf cEn_keepHalf 4 none ∈ ckT := ck_m3 (List.mem_of_getElem? (i := 5) rfl) rfl
theorem kiEn_keepHalf : Cond.instanceMethod yEn_keepHalf ∈ ckT := ck_m3 (List.mem_of_getElem? (i := 4) rfl) rfl
theorem keEn_keepHalf : Cond.selects "CoverKeys$Envelope" yEn_keepHalf yEn_keepHalf ∈ ckT := ck_ms (List.mem_of_getElem? (i := 7) rfl) rfl
theorem knEn : Cond.initialized "CoverKeys$Envelope" ∈ ckT := ck_m1 (List.mem_of_getElem? (i := 5) rfl) rfl
theorem kmEn_29 : Cond.methodLink "CoverKeys$Envelope" 29 yEn_keepHalf ∈ ckT := ck_m3 (List.mem_of_getElem? (i := 2) rfl) rfl
theorem clEn_29 (hx : p.tables.exec = Jvm.exec) (hb : c.code = cc) (hml : c.maxLocals = nL) (hown : s.vm.findClass "CoverKeys$Envelope" = some m.cls) (hts : ∀ w ∈ ckT, w.before args s = true) (hM : Cq l G yEn_keepHalf cEn_keepHalf 4 none rm (.ref b :: As) wi φ r wo) (hG : gk G A s s.heap) (hA : ∀ q : Nat, s.heap.size ≤ q → A q) (hP : va_P G.1 vwCl ws H) (hD : va_D A ws) (hS : va_S A s.heap H locs) (q0 : Nat) (hq : ws[q0]? = some (oC b 4 fs)) (is : List Nat) (hC : is.map (fun i => ws[i]?) = wi.map some) (hnd : va_nd is = true) (ha : ∀ u, (wo u).map (·.1) = wi.map (·.1)) (hn : As.length = 2) (hsize : ls.size = nL) (hst : st0 = As.reverse ++ .ref b :: rest) (hrm : (rest.map fun v => v.category).sum ≤ 8) (hR : rm.frames + 1 ≤ R.frames ∧ 8 + (4 + 11) + rm.locals ≤ R.locals) (hf : cells + rm.cells ≤ R.cells ∧ slots + rm.slots ≤ R.slots) (hdg : decode cc pc = .ok (.invokevirtual 29, 3)) (kk : ∀ (u : S) (H1 : Heap) (locs1 : List Loc), φ u → va_P G.1 vwCl (ck_set ws is (wo u)) H1 → va_D A (ck_set ws is (wo u)) → va_S A s.heap H1 locs1 → W p l e R s m args below meth c H1 locs1 (cells + rm.cells) (slots + rm.slots) Q (F0 m (pc + 3) ls ((r u).toList ++ rest))) :
    W p l e R s m args below meth c H locs cells slots Q (F0 m pc ls st0) :=
  cq_V (T := TEn) (N := 3) ⟨hx, hb, hml, hown, hts⟩ hM ⟨callB_of 2 hts (ck_gd0 kcEn_keepHalf) rfl rfl rfl (hts _ knEn) (hts _ kmEn_29) ⟨by decide, by decide, by decide +kernel⟩ hR, hts _ kiEn_keepHalf, hts _ keEn_keepHalf⟩ hG hA hP hD hS hq rfl is hC hnd ha hn hsize hst hrm hdg hf kk
theorem kcTr_isSubset : Cond.code yTr_isSubset cTr_isSubset 3 (some .boolean) ∈ ckT := ck_m3 (List.mem_of_getElem? (i := 44) rfl) rfl
theorem kiTr_isSubset : Cond.instanceMethod yTr_isSubset ∈ ckT := ck_m3 (List.mem_of_getElem? (i := 42) rfl) rfl
theorem keTr_isSubset : Cond.selects "CoverKeys$Tree" yTr_isSubset yTr_isSubset ∈ ckT := ck_m3 (List.mem_of_getElem? (i := 43) rfl) rfl
theorem kmTr_30 : Cond.methodLink "CoverKeys$Tree" 30 yTr_isSubset ∈ ckT := ck_m3 (List.mem_of_getElem? (i := 41) rfl) rfl
theorem clTr_30 (hx : p.tables.exec = Jvm.exec) (hb : c.code = cc) (hml : c.maxLocals = nL) (hown : s.vm.findClass "CoverKeys$Tree" = some m.cls) (hts : ∀ w ∈ ckT, w.before args s = true) (hM : Cq l G yTr_isSubset cTr_isSubset 3 (some .boolean) rm (.ref b :: As) wi φ r wo) (hG : gk G A s s.heap) (hA : ∀ q : Nat, s.heap.size ≤ q → A q) (hP : va_P G.1 vwCl ws H) (hD : va_D A ws) (hS : va_S A s.heap H locs) (q0 : Nat) (hq : ws[q0]? = some (oC b 6 fs)) (is : List Nat) (hC : is.map (fun i => ws[i]?) = wi.map some) (hnd : va_nd is = true) (ha : ∀ u, (wo u).map (·.1) = wi.map (·.1)) (hn : As.length = 2) (hsize : ls.size = nL) (hst : st0 = As.reverse ++ .ref b :: rest) (hrm : (rest.map fun v => v.category).sum ≤ 8) (hR : rm.frames + 1 ≤ R.frames ∧ 8 + (3 + 11) + rm.locals ≤ R.locals) (hf : cells + rm.cells ≤ R.cells ∧ slots + rm.slots ≤ R.slots) (hdg : decode cc pc = .ok (.invokevirtual 30, 3)) (kk : ∀ (u : S) (H1 : Heap) (locs1 : List Loc), φ u → va_P G.1 vwCl (ck_set ws is (wo u)) H1 → va_D A (ck_set ws is (wo u)) → va_S A s.heap H1 locs1 → W p l e R s m args below meth c H1 locs1 (cells + rm.cells) (slots + rm.slots) Q (F0 m (pc + 3) ls ((r u).toList ++ rest))) :
    W p l e R s m args below meth c H locs cells slots Q (F0 m pc ls st0) :=
  cq_V (T := TTr) (N := 3) ⟨hx, hb, hml, hown, hts⟩ hM ⟨callB_of 2 hts (ck_gd0 kcTr_isSubset) rfl rfl rfl (hts _ knTr) (hts _ kmTr_30) ⟨by decide, by decide, by decide +kernel⟩ hR, hts _ kiTr_isSubset, hts _ keTr_isSubset⟩ hG hA hP hD hS hq rfl is hC hnd ha hn hsize hst hrm hdg hf kk
theorem kmTr_22 : Cond.methodLink "CoverKeys$Tree" 22 yTr_leaves ∈ ckT := ck_m3 (List.mem_of_getElem? (i := 45) rfl) rfl
theorem clTr_22 (hx : p.tables.exec = Jvm.exec) (hb : c.code = cc) (hml : c.maxLocals = nL) (hown : s.vm.findClass "CoverKeys$Tree" = some m.cls) (hts : ∀ w ∈ ckT, w.before args s = true) (hM : Cq l G yTr_leaves cTr_leaves 1 (some .int) rm (.ref b :: As) wi φ r wo) (hG : gk G A s s.heap) (hA : ∀ q : Nat, s.heap.size ≤ q → A q) (hP : va_P G.1 vwCl ws H) (hD : va_D A ws) (hS : va_S A s.heap H locs) (q0 : Nat) (hq : ws[q0]? = some (oC b 6 fs)) (is : List Nat) (hC : is.map (fun i => ws[i]?) = wi.map some) (hnd : va_nd is = true) (ha : ∀ u, (wo u).map (·.1) = wi.map (·.1)) (hn : As.length = 0) (hsize : ls.size = nL) (hst : st0 = As.reverse ++ .ref b :: rest) (hrm : (rest.map fun v => v.category).sum ≤ 8) (hR : rm.frames + 1 ≤ R.frames ∧ 8 + (1 + 11) + rm.locals ≤ R.locals) (hf : cells + rm.cells ≤ R.cells ∧ slots + rm.slots ≤ R.slots) (hdg : decode cc pc = .ok (.invokevirtual 22, 3)) (kk : ∀ (u : S) (H1 : Heap) (locs1 : List Loc), φ u → va_P G.1 vwCl (ck_set ws is (wo u)) H1 → va_D A (ck_set ws is (wo u)) → va_S A s.heap H1 locs1 → W p l e R s m args below meth c H1 locs1 (cells + rm.cells) (slots + rm.slots) Q (F0 m (pc + 3) ls ((r u).toList ++ rest))) :
    W p l e R s m args below meth c H locs cells slots Q (F0 m pc ls st0) :=
  cq_V (T := TTr) (N := 3) ⟨hx, hb, hml, hown, hts⟩ hM ⟨callB_of 0 hts (ck_gd0 kcTr_leaves) rfl rfl rfl (hts _ knTr) (hts _ kmTr_22) ⟨by decide, by decide, by decide +kernel⟩ hR, hts _ kiTr_leaves, hts _ keTr_leaves⟩ hG hA hP hD hS hq rfl is hC hnd ha hn hsize hst hrm hdg hf kk
theorem kcCi_decrypt : Cond.code yCi_decrypt cCi_decrypt 15 none ∈ ckT := ck_m3 (List.mem_of_getElem? (i := 57) rfl) rfl
theorem kiCi_decrypt : Cond.instanceMethod yCi_decrypt ∈ ckT := ck_m3 (List.mem_of_getElem? (i := 55) rfl) rfl
theorem keCi_decrypt : Cond.selects "CoverKeys$Cipher" yCi_decrypt yCi_decrypt ∈ ckT := ck_m3 (List.mem_of_getElem? (i := 56) rfl) rfl
theorem kmEn_33 : Cond.methodLink "CoverKeys$Envelope" 33 yCi_decrypt ∈ ckT := ck_m3 (List.mem_of_getElem? (i := 54) rfl) rfl
theorem clEn_33 (hx : p.tables.exec = Jvm.exec) (hb : c.code = cc) (hml : c.maxLocals = nL) (hown : s.vm.findClass "CoverKeys$Envelope" = some m.cls) (hts : ∀ w ∈ ckT, w.before args s = true) (hM : Cq l G yCi_decrypt cCi_decrypt 15 none rm (.ref b :: As) wi φ r wo) (hG : gk G A s s.heap) (hA : ∀ q : Nat, s.heap.size ≤ q → A q) (hP : va_P G.1 vwCl ws H) (hD : va_D A ws) (hS : va_S A s.heap H locs) (q0 : Nat) (hq : ws[q0]? = some (oC b 1 fs)) (is : List Nat) (hC : is.map (fun i => ws[i]?) = wi.map some) (hnd : va_nd is = true) (ha : ∀ u, (wo u).map (·.1) = wi.map (·.1)) (hn : As.length = 2) (hsize : ls.size = nL) (hst : st0 = As.reverse ++ .ref b :: rest) (hrm : (rest.map fun v => v.category).sum ≤ 8) (hR : rm.frames + 1 ≤ R.frames ∧ 8 + (15 + 11) + rm.locals ≤ R.locals) (hf : cells + rm.cells ≤ R.cells ∧ slots + rm.slots ≤ R.slots) (hdg : decode cc pc = .ok (.invokevirtual 33, 3)) (kk : ∀ (u : S) (H1 : Heap) (locs1 : List Loc), φ u → va_P G.1 vwCl (ck_set ws is (wo u)) H1 → va_D A (ck_set ws is (wo u)) → va_S A s.heap H1 locs1 → W p l e R s m args below meth c H1 locs1 (cells + rm.cells) (slots + rm.slots) Q (F0 m (pc + 3) ls ((r u).toList ++ rest))) :
    W p l e R s m args below meth c H locs cells slots Q (F0 m pc ls st0) :=
  cq_V (T := TCi) (N := 3) ⟨hx, hb, hml, hown, hts⟩ hM ⟨callB_of 2 hts (ck_gd0 kcCi_decrypt) rfl rfl rfl (hts _ knCi) (hts _ kmEn_33) ⟨by decide, by decide, by decide +kernel⟩ hR, hts _ kiCi_decrypt, hts _ keCi_decrypt⟩ hG hA hP hD hS hq rfl is hC hnd ha hn hsize hst hrm hdg hf kk
theorem kcTr_levelOfTop : Cond.code yTr_levelOfTop cTr_levelOfTop 3 (some .int) ∈ ckT := ck_m3 (List.mem_of_getElem? (i := 124) rfl) rfl
theorem kiTr_levelOfTop : Cond.instanceMethod yTr_levelOfTop ∈ ckT := ck_m3 (List.mem_of_getElem? (i := 123) rfl) rfl
theorem keTr_levelOfTop : Cond.selects "CoverKeys$Tree" yTr_levelOfTop yTr_levelOfTop ∈ ckT := ck_ms (List.mem_of_getElem? (i := 12) rfl) rfl
theorem kmTr_34 : Cond.methodLink "CoverKeys$Tree" 34 yTr_levelOfTop ∈ ckT := ck_m3 (List.mem_of_getElem? (i := 121) rfl) rfl
theorem clTr_34 (hx : p.tables.exec = Jvm.exec) (hb : c.code = cc) (hml : c.maxLocals = nL) (hown : s.vm.findClass "CoverKeys$Tree" = some m.cls) (hts : ∀ w ∈ ckT, w.before args s = true) (hM : Cq l G yTr_levelOfTop cTr_levelOfTop 3 (some .int) rm (.ref b :: As) wi φ r wo) (hG : gk G A s s.heap) (hA : ∀ q : Nat, s.heap.size ≤ q → A q) (hP : va_P G.1 vwCl ws H) (hD : va_D A ws) (hS : va_S A s.heap H locs) (q0 : Nat) (hq : ws[q0]? = some (oC b 6 fs)) (is : List Nat) (hC : is.map (fun i => ws[i]?) = wi.map some) (hnd : va_nd is = true) (ha : ∀ u, (wo u).map (·.1) = wi.map (·.1)) (hn : As.length = 1) (hsize : ls.size = nL) (hst : st0 = As.reverse ++ .ref b :: rest) (hrm : (rest.map fun v => v.category).sum ≤ 8) (hR : rm.frames + 1 ≤ R.frames ∧ 8 + (3 + 11) + rm.locals ≤ R.locals) (hf : cells + rm.cells ≤ R.cells ∧ slots + rm.slots ≤ R.slots) (hdg : decode cc pc = .ok (.invokevirtual 34, 3)) (kk : ∀ (u : S) (H1 : Heap) (locs1 : List Loc), φ u → va_P G.1 vwCl (ck_set ws is (wo u)) H1 → va_D A (ck_set ws is (wo u)) → va_S A s.heap H1 locs1 → W p l e R s m args below meth c H1 locs1 (cells + rm.cells) (slots + rm.slots) Q (F0 m (pc + 3) ls ((r u).toList ++ rest))) :
    W p l e R s m args below meth c H locs cells slots Q (F0 m pc ls st0) :=
  cq_V (T := TTr) (N := 3) ⟨hx, hb, hml, hown, hts⟩ hM ⟨callB_of 1 hts (ck_gd0 kcTr_levelOfTop) rfl rfl rfl (hts _ knTr) (hts _ kmTr_34) ⟨by decide, by decide, by decide +kernel⟩ hR, hts _ kiTr_levelOfTop, hts _ keTr_levelOfTop⟩ hG hA hP hD hS hq rfl is hC hnd ha hn hsize hst hrm hdg hf kk
theorem kcTr_labelsAbove : Cond.code yTr_labelsAbove cTr_labelsAbove 2 (some .int) ∈ ckT := ck_m3 (List.mem_of_getElem? (i := 128) rfl) rfl
theorem kiTr_labelsAbove : Cond.instanceMethod yTr_labelsAbove ∈ ckT := ck_m3 (List.mem_of_getElem? (i := 127) rfl) rfl
theorem keTr_labelsAbove : Cond.selects "CoverKeys$Tree" yTr_labelsAbove yTr_labelsAbove ∈ ckT := ck_ms (List.mem_of_getElem? (i := 13) rfl) rfl
theorem kmTr_38 : Cond.methodLink "CoverKeys$Tree" 38 yTr_labelsAbove ∈ ckT := ck_m3 (List.mem_of_getElem? (i := 125) rfl) rfl
theorem clTr_38 (hx : p.tables.exec = Jvm.exec) (hb : c.code = cc) (hml : c.maxLocals = nL) (hown : s.vm.findClass "CoverKeys$Tree" = some m.cls) (hts : ∀ w ∈ ckT, w.before args s = true) (hM : Cq l G yTr_labelsAbove cTr_labelsAbove 2 (some .int) rm (.ref b :: As) wi φ r wo) (hG : gk G A s s.heap) (hA : ∀ q : Nat, s.heap.size ≤ q → A q) (hP : va_P G.1 vwCl ws H) (hD : va_D A ws) (hS : va_S A s.heap H locs) (q0 : Nat) (hq : ws[q0]? = some (oC b 6 fs)) (is : List Nat) (hC : is.map (fun i => ws[i]?) = wi.map some) (hnd : va_nd is = true) (ha : ∀ u, (wo u).map (·.1) = wi.map (·.1)) (hn : As.length = 1) (hsize : ls.size = nL) (hst : st0 = As.reverse ++ .ref b :: rest) (hrm : (rest.map fun v => v.category).sum ≤ 8) (hR : rm.frames + 1 ≤ R.frames ∧ 8 + (2 + 11) + rm.locals ≤ R.locals) (hf : cells + rm.cells ≤ R.cells ∧ slots + rm.slots ≤ R.slots) (hdg : decode cc pc = .ok (.invokevirtual 38, 3)) (kk : ∀ (u : S) (H1 : Heap) (locs1 : List Loc), φ u → va_P G.1 vwCl (ck_set ws is (wo u)) H1 → va_D A (ck_set ws is (wo u)) → va_S A s.heap H1 locs1 → W p l e R s m args below meth c H1 locs1 (cells + rm.cells) (slots + rm.slots) Q (F0 m (pc + 3) ls ((r u).toList ++ rest))) :
    W p l e R s m args below meth c H locs cells slots Q (F0 m pc ls st0) :=
  cq_V (T := TTr) (N := 3) ⟨hx, hb, hml, hown, hts⟩ hM ⟨callB_of 1 hts (ck_gd0 kcTr_labelsAbove) rfl rfl rfl (hts _ knTr) (hts _ kmTr_38) ⟨by decide, by decide, by decide +kernel⟩ hR, hts _ kiTr_labelsAbove, hts _ keTr_labelsAbove⟩ hG hA hP hD hS hq rfl is hC hnd ha hn hsize hst hrm hdg hf kk
end CLL
theorem kMmaxL : Cond.methodLink "CoverKeys$Channel" 36 Lib.Math.max.name ∈ ckT := ck_m2 (List.mem_of_getElem? (i := 179) rfl) rfl
theorem kMmaxS : Cond.static Lib.Math.max.name ∈ ckT := ck_m2 (List.mem_of_getElem? (i := 180) rfl) rfl
theorem kMmaxC : Cond.code Lib.Math.max.name Lib.Math.max.code 2 (some .int) ∈ ckT := ck_m2 (List.mem_of_getElem? (i := 181) rfl) rfl
theorem kMminL : Cond.methodLink "CoverKeys" 125 Lib.Math.min.name ∈ ckT := ck_m2 (List.mem_of_getElem? (i := 187) rfl) rfl
theorem kMminS : Cond.static Lib.Math.min.name ∈ ckT := ck_m2 (List.mem_of_getElem? (i := 188) rfl) rfl
theorem kMminC : Cond.code Lib.Math.min.name Lib.Math.min.code 2 (some .int) ∈ ckT := ck_m2 (List.mem_of_getElem? (i := 189) rfl) rfl
theorem kMI : Cond.initialized "java/lang/Math" ∈ ckT := ck_m1 (List.mem_of_getElem? (i := 17) rfl) rfl
