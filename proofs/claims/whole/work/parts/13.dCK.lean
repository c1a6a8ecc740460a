theorem dCK_init_0 : decode cCK_init 0 = .ok (.aload_n 0, 1) := by decide +kernel
theorem dCK_init_1 : decode cCK_init 1 = .ok (.invokespecial 3, 3) := by decide +kernel
theorem dCK_init_4 : decode cCK_init 4 = .ok (.aload_n 0, 1) := by decide +kernel
theorem dCK_init_5 : decode cCK_init 5 = .ok (.new 9, 3) := by decide +kernel
theorem dCK_init_8 : decode cCK_init 8 = .ok (.dup, 1) := by decide +kernel
theorem dCK_init_9 : decode cCK_init 9 = .ok (.invokespecial 11, 3) := by decide +kernel
theorem dCK_init_12 : decode cCK_init 12 = .ok (.putfield 12, 3) := by decide +kernel
theorem dCK_init_15 : decode cCK_init 15 = .ok (.aload_n 0, 1) := by decide +kernel
theorem dCK_init_16 : decode cCK_init 16 = .ok (.new 16, 3) := by decide +kernel
theorem dCK_init_19 : decode cCK_init 19 = .ok (.dup, 1) := by decide +kernel
theorem dCK_init_20 : decode cCK_init 20 = .ok (.invokespecial 18, 3) := by decide +kernel
theorem dCK_init_23 : decode cCK_init 23 = .ok (.putfield 19, 3) := by decide +kernel
theorem dCK_init_26 : decode cCK_init 26 = .ok (.aload_n 0, 1) := by decide +kernel
theorem dCK_init_27 : decode cCK_init 27 = .ok (.new 23, 3) := by decide +kernel
theorem dCK_init_30 : decode cCK_init 30 = .ok (.dup, 1) := by decide +kernel
theorem dCK_init_31 : decode cCK_init 31 = .ok (.invokespecial 25, 3) := by decide +kernel
theorem dCK_init_34 : decode cCK_init 34 = .ok (.putfield 26, 3) := by decide +kernel
theorem dCK_init_37 : decode cCK_init 37 = .ok (.aload_n 0, 1) := by decide +kernel
theorem dCK_init_38 : decode cCK_init 38 = .ok (.new 30, 3) := by decide +kernel
theorem dCK_init_41 : decode cCK_init 41 = .ok (.dup, 1) := by decide +kernel
theorem dCK_init_42 : decode cCK_init 42 = .ok (.invokespecial 32, 3) := by decide +kernel
theorem dCK_init_45 : decode cCK_init 45 = .ok (.putfield 33, 3) := by decide +kernel
theorem dCK_init_48 : decode cCK_init 48 = .ok (.aload_n 0, 1) := by decide +kernel
theorem dCK_init_49 : decode cCK_init 49 = .ok (.new 37, 3) := by decide +kernel
theorem dCK_init_52 : decode cCK_init 52 = .ok (.dup, 1) := by decide +kernel
theorem dCK_init_53 : decode cCK_init 53 = .ok (.invokespecial 39, 3) := by decide +kernel
theorem dCK_init_56 : decode cCK_init 56 = .ok (.putfield 40, 3) := by decide +kernel
theorem dCK_init_59 : decode cCK_init 59 = .ok (.aload_n 0, 1) := by decide +kernel
theorem dCK_init_60 : decode cCK_init 60 = .ok (.iconst 4, 1) := by decide +kernel
theorem dCK_init_61 : decode cCK_init 61 = .ok (.anewarray 44, 3) := by decide +kernel
theorem dCK_init_64 : decode cCK_init 64 = .ok (.putfield 46, 3) := by decide +kernel
theorem dCK_init_67 : decode cCK_init 67 = .ok (.aload_n 0, 1) := by decide +kernel
theorem dCK_init_68 : decode cCK_init 68 = .ok (.sipush 256, 3) := by decide +kernel
theorem dCK_init_71 : decode cCK_init 71 = .ok (.anewarray 50, 3) := by decide +kernel
theorem dCK_init_74 : decode cCK_init 74 = .ok (.putfield 52, 3) := by decide +kernel
theorem dCK_init_77 : decode cCK_init 77 = .ok (.iconst 0, 1) := by decide +kernel
theorem dCK_init_78 : decode cCK_init 78 = .ok (.istore_n 1, 1) := by decide +kernel
theorem dCK_init_79 : decode cCK_init 79 = .ok (.iload_n 1, 1) := by decide +kernel
theorem dCK_init_80 : decode cCK_init 80 = .ok (.iconst 4, 1) := by decide +kernel
theorem dCK_init_81 : decode cCK_init 81 = .ok (.if_icmp .ge 22, 3) := by decide +kernel
theorem dCK_init_84 : decode cCK_init 84 = .ok (.aload_n 0, 1) := by decide +kernel
theorem dCK_init_85 : decode cCK_init 85 = .ok (.getfield 46, 3) := by decide +kernel
theorem dCK_init_88 : decode cCK_init 88 = .ok (.iload_n 1, 1) := by decide +kernel
theorem dCK_init_89 : decode cCK_init 89 = .ok (.new 44, 3) := by decide +kernel
theorem dCK_init_92 : decode cCK_init 92 = .ok (.dup, 1) := by decide +kernel
theorem dCK_init_93 : decode cCK_init 93 = .ok (.invokespecial 56, 3) := by decide +kernel
theorem dCK_init_96 : decode cCK_init 96 = .ok (.aastore, 1) := by decide +kernel
theorem dCK_init_97 : decode cCK_init 97 = .ok (.iinc 1 1, 3) := by decide +kernel
theorem dCK_init_100 : decode cCK_init 100 = .ok (.goto (-21), 3) := by decide +kernel
theorem dCK_init_103 : decode cCK_init 103 = .ok (.aload_n 0, 1) := by decide +kernel
theorem dCK_init_104 : decode cCK_init 104 = .ok (.getfield 19, 3) := by decide +kernel
theorem dCK_init_107 : decode cCK_init 107 = .ok (.iconst 4, 1) := by decide +kernel
theorem dCK_init_108 : decode cCK_init 108 = .ok (.lconst 0, 1) := by decide +kernel
theorem dCK_init_109 : decode cCK_init 109 = .ok (.lconst 0, 1) := by decide +kernel
theorem dCK_init_110 : decode cCK_init 110 = .ok (.invokevirtual 57, 3) := by decide +kernel
theorem dCK_init_113 : decode cCK_init 113 = .ok (.return_, 1) := by decide +kernel
theorem dCK_out_0 : decode cCK_out 0 = .ok (.iload_n 1, 1) := by decide +kernel
theorem dCK_out_1 : decode cCK_out 1 = .ok (.ifCond .eq 10, 3) := by decide +kernel
theorem dCK_out_4 : decode cCK_out 4 = .ok (.aload_n 0, 1) := by decide +kernel
theorem dCK_out_5 : decode cCK_out 5 = .ok (.getfield 189, 3) := by decide +kernel
theorem dCK_out_8 : decode cCK_out 8 = .ok (.goto 7, 3) := by decide +kernel
theorem dCK_out_11 : decode cCK_out 11 = .ok (.aload_n 0, 1) := by decide +kernel
theorem dCK_out_12 : decode cCK_out 12 = .ok (.getfield 192, 3) := by decide +kernel
theorem dCK_out_15 : decode cCK_out 15 = .ok (.lreturn, 1) := by decide +kernel
theorem dCK_begin_0 : decode cCK_begin 0 = .ok (.iload_n 1, 1) := by decide +kernel
theorem dCK_begin_1 : decode cCK_begin 1 = .ok (.iconst 1, 1) := by decide +kernel
theorem dCK_begin_2 : decode cCK_begin 2 = .ok (.if_icmp .lt 9, 3) := by decide +kernel
theorem dCK_begin_5 : decode cCK_begin 5 = .ok (.iload_n 1, 1) := by decide +kernel
theorem dCK_begin_6 : decode cCK_begin 6 = .ok (.bipush 8, 2) := by decide +kernel
theorem dCK_begin_8 : decode cCK_begin 8 = .ok (.if_icmp .le 13, 3) := by decide +kernel
theorem dCK_begin_11 : decode cCK_begin 11 = .ok (.new 61, 3) := by decide +kernel
theorem dCK_begin_14 : decode cCK_begin 14 = .ok (.dup, 1) := by decide +kernel
theorem dCK_begin_15 : decode cCK_begin 15 = .ok (.ldc 63, 2) := by decide +kernel
theorem dCK_begin_17 : decode cCK_begin 17 = .ok (.invokespecial 65, 3) := by decide +kernel
theorem dCK_begin_20 : decode cCK_begin 20 = .ok (.athrow, 1) := by decide +kernel
theorem dCK_begin_21 : decode cCK_begin 21 = .ok (.aload_n 0, 1) := by decide +kernel
theorem dCK_begin_22 : decode cCK_begin 22 = .ok (.getfield 19, 3) := by decide +kernel
theorem dCK_begin_25 : decode cCK_begin 25 = .ok (.iload_n 1, 1) := by decide +kernel
theorem dCK_begin_26 : decode cCK_begin 26 = .ok (.lload_n 2, 1) := by decide +kernel
theorem dCK_begin_27 : decode cCK_begin 27 = .ok (.lload 4, 2) := by decide +kernel
theorem dCK_begin_29 : decode cCK_begin 29 = .ok (.invokevirtual 57, 3) := by decide +kernel
theorem dCK_begin_32 : decode cCK_begin 32 = .ok (.aload_n 0, 1) := by decide +kernel
theorem dCK_begin_33 : decode cCK_begin 33 = .ok (.getfield 40, 3) := by decide +kernel
theorem dCK_begin_36 : decode cCK_begin 36 = .ok (.invokevirtual 68, 3) := by decide +kernel
theorem dCK_begin_39 : decode cCK_begin 39 = .ok (.iconst 0, 1) := by decide +kernel
theorem dCK_begin_40 : decode cCK_begin 40 = .ok (.istore 6, 2) := by decide +kernel
theorem dCK_begin_42 : decode cCK_begin 42 = .ok (.iload 6, 2) := by decide +kernel
theorem dCK_begin_44 : decode cCK_begin 44 = .ok (.iconst 4, 1) := by decide +kernel
theorem dCK_begin_45 : decode cCK_begin 45 = .ok (.if_icmp .ge 19, 3) := by decide +kernel
theorem dCK_begin_48 : decode cCK_begin 48 = .ok (.aload_n 0, 1) := by decide +kernel
theorem dCK_begin_49 : decode cCK_begin 49 = .ok (.getfield 46, 3) := by decide +kernel
theorem dCK_begin_52 : decode cCK_begin 52 = .ok (.iload 6, 2) := by decide +kernel
theorem dCK_begin_54 : decode cCK_begin 54 = .ok (.aaload, 1) := by decide +kernel
theorem dCK_begin_55 : decode cCK_begin 55 = .ok (.invokevirtual 71, 3) := by decide +kernel
theorem dCK_begin_58 : decode cCK_begin 58 = .ok (.iinc 6 1, 3) := by decide +kernel
theorem dCK_begin_61 : decode cCK_begin 61 = .ok (.goto (-19), 3) := by decide +kernel
theorem dCK_begin_64 : decode cCK_begin 64 = .ok (.iconst 0, 1) := by decide +kernel
theorem dCK_begin_65 : decode cCK_begin 65 = .ok (.istore 6, 2) := by decide +kernel
theorem dCK_begin_67 : decode cCK_begin 67 = .ok (.iload 6, 2) := by decide +kernel
theorem dCK_begin_69 : decode cCK_begin 69 = .ok (.sipush 256, 3) := by decide +kernel
theorem dCK_begin_72 : decode cCK_begin 72 = .ok (.if_icmp .ge 17, 3) := by decide +kernel
theorem dCK_begin_75 : decode cCK_begin 75 = .ok (.aload_n 0, 1) := by decide +kernel
theorem dCK_begin_76 : decode cCK_begin 76 = .ok (.getfield 52, 3) := by decide +kernel
theorem dCK_begin_79 : decode cCK_begin 79 = .ok (.iload 6, 2) := by decide +kernel
theorem dCK_begin_81 : decode cCK_begin 81 = .ok (.aconst_null, 1) := by decide +kernel
theorem dCK_begin_82 : decode cCK_begin 82 = .ok (.aastore, 1) := by decide +kernel
theorem dCK_begin_83 : decode cCK_begin 83 = .ok (.iinc 6 1, 3) := by decide +kernel
theorem dCK_begin_86 : decode cCK_begin 86 = .ok (.goto (-19), 3) := by decide +kernel
theorem dCK_begin_89 : decode cCK_begin 89 = .ok (.return_, 1) := by decide +kernel
theorem dCK_install_0 : decode cCK_install 0 = .ok (.aload_n 0, 1) := by decide +kernel
theorem dCK_install_1 : decode cCK_install 1 = .ok (.iload_n 1, 1) := by decide +kernel
theorem dCK_install_2 : decode cCK_install 2 = .ok (.invokevirtual 72, 3) := by decide +kernel
theorem dCK_install_5 : decode cCK_install 5 = .ok (.aload_n 0, 1) := by decide +kernel
theorem dCK_install_6 : decode cCK_install 6 = .ok (.getfield 52, 3) := by decide +kernel
theorem dCK_install_9 : decode cCK_install 9 = .ok (.iload_n 1, 1) := by decide +kernel
theorem dCK_install_10 : decode cCK_install 10 = .ok (.aaload, 1) := by decide +kernel
theorem dCK_install_11 : decode cCK_install 11 = .ok (.ifnull 13, 3) := by decide +kernel
theorem dCK_install_14 : decode cCK_install 14 = .ok (.new 76, 3) := by decide +kernel
theorem dCK_install_17 : decode cCK_install 17 = .ok (.dup, 1) := by decide +kernel
theorem dCK_install_18 : decode cCK_install 18 = .ok (.ldc 78, 2) := by decide +kernel
theorem dCK_install_20 : decode cCK_install 20 = .ok (.invokespecial 80, 3) := by decide +kernel
theorem dCK_install_23 : decode cCK_install 23 = .ok (.athrow, 1) := by decide +kernel
theorem dCK_install_24 : decode cCK_install 24 = .ok (.aload_n 0, 1) := by decide +kernel
theorem dCK_install_25 : decode cCK_install 25 = .ok (.getfield 52, 3) := by decide +kernel
theorem dCK_install_28 : decode cCK_install 28 = .ok (.iload_n 1, 1) := by decide +kernel
theorem dCK_install_29 : decode cCK_install 29 = .ok (.new 50, 3) := by decide +kernel
theorem dCK_install_32 : decode cCK_install 32 = .ok (.dup, 1) := by decide +kernel
theorem dCK_install_33 : decode cCK_install 33 = .ok (.invokespecial 81, 3) := by decide +kernel
theorem dCK_install_36 : decode cCK_install 36 = .ok (.aastore, 1) := by decide +kernel
theorem dCK_install_37 : decode cCK_install 37 = .ok (.aload_n 0, 1) := by decide +kernel
theorem dCK_install_38 : decode cCK_install 38 = .ok (.getfield 19, 3) := by decide +kernel
theorem dCK_install_41 : decode cCK_install 41 = .ok (.invokevirtual 82, 3) := by decide +kernel
theorem dCK_install_44 : decode cCK_install 44 = .ok (.ireturn, 1) := by decide +kernel
theorem dCK_checkDecoder_0 : decode cCK_checkDecoder 0 = .ok (.iload_n 1, 1) := by decide +kernel
theorem dCK_checkDecoder_1 : decode cCK_checkDecoder 1 = .ok (.ifCond .lt 14, 3) := by decide +kernel
theorem dCK_checkDecoder_4 : decode cCK_checkDecoder 4 = .ok (.iload_n 1, 1) := by decide +kernel
theorem dCK_checkDecoder_5 : decode cCK_checkDecoder 5 = .ok (.aload_n 0, 1) := by decide +kernel
theorem dCK_checkDecoder_6 : decode cCK_checkDecoder 6 = .ok (.getfield 19, 3) := by decide +kernel
theorem dCK_checkDecoder_9 : decode cCK_checkDecoder 9 = .ok (.invokevirtual 251, 3) := by decide +kernel
theorem dCK_checkDecoder_12 : decode cCK_checkDecoder 12 = .ok (.if_icmp .lt 13, 3) := by decide +kernel
theorem dCK_checkDecoder_15 : decode cCK_checkDecoder 15 = .ok (.new 201, 3) := by decide +kernel
theorem dCK_checkDecoder_18 : decode cCK_checkDecoder 18 = .ok (.dup, 1) := by decide +kernel
theorem dCK_checkDecoder_19 : decode cCK_checkDecoder 19 = .ok (.ldc 254, 2) := by decide +kernel
theorem dCK_checkDecoder_21 : decode cCK_checkDecoder 21 = .ok (.invokespecial 205, 3) := by decide +kernel
theorem dCK_checkDecoder_24 : decode cCK_checkDecoder 24 = .ok (.athrow, 1) := by decide +kernel
theorem dCK_checkDecoder_25 : decode cCK_checkDecoder 25 = .ok (.return_, 1) := by decide +kernel
theorem dCK_subscribe_0 : decode cCK_subscribe 0 = .ok (.aload_n 0, 1) := by decide +kernel
theorem dCK_subscribe_1 : decode cCK_subscribe 1 = .ok (.iload_n 1, 1) := by decide +kernel
theorem dCK_subscribe_2 : decode cCK_subscribe 2 = .ok (.invokevirtual 72, 3) := by decide +kernel
theorem dCK_subscribe_5 : decode cCK_subscribe 5 = .ok (.iload_n 2, 1) := by decide +kernel
theorem dCK_subscribe_6 : decode cCK_subscribe 6 = .ok (.invokestatic 86, 3) := by decide +kernel
theorem dCK_subscribe_9 : decode cCK_subscribe 9 = .ok (.aload_n 0, 1) := by decide +kernel
theorem dCK_subscribe_10 : decode cCK_subscribe 10 = .ok (.getfield 46, 3) := by decide +kernel
theorem dCK_subscribe_13 : decode cCK_subscribe 13 = .ok (.iload_n 2, 1) := by decide +kernel
theorem dCK_subscribe_14 : decode cCK_subscribe 14 = .ok (.aaload, 1) := by decide +kernel
theorem dCK_subscribe_15 : decode cCK_subscribe 15 = .ok (.getfield 89, 3) := by decide +kernel
theorem dCK_subscribe_18 : decode cCK_subscribe 18 = .ok (.astore 4, 2) := by decide +kernel
theorem dCK_subscribe_20 : decode cCK_subscribe 20 = .ok (.aload 4, 2) := by decide +kernel
theorem dCK_subscribe_22 : decode cCK_subscribe 22 = .ok (.iload_n 1, 1) := by decide +kernel
theorem dCK_subscribe_23 : decode cCK_subscribe 23 = .ok (.baload, 1) := by decide +kernel
theorem dCK_subscribe_24 : decode cCK_subscribe 24 = .ok (.iload_n 3, 1) := by decide +kernel
theorem dCK_subscribe_25 : decode cCK_subscribe 25 = .ok (.if_icmp .eq 7, 3) := by decide +kernel
theorem dCK_subscribe_28 : decode cCK_subscribe 28 = .ok (.iconst 1, 1) := by decide +kernel
theorem dCK_subscribe_29 : decode cCK_subscribe 29 = .ok (.goto 4, 3) := by decide +kernel
theorem dCK_subscribe_32 : decode cCK_subscribe 32 = .ok (.iconst 0, 1) := by decide +kernel
theorem dCK_subscribe_33 : decode cCK_subscribe 33 = .ok (.istore 5, 2) := by decide +kernel
theorem dCK_subscribe_35 : decode cCK_subscribe 35 = .ok (.aload 4, 2) := by decide +kernel
theorem dCK_subscribe_37 : decode cCK_subscribe 37 = .ok (.iload_n 1, 1) := by decide +kernel
theorem dCK_subscribe_38 : decode cCK_subscribe 38 = .ok (.iload_n 3, 1) := by decide +kernel
theorem dCK_subscribe_39 : decode cCK_subscribe 39 = .ok (.bastore, 1) := by decide +kernel
theorem dCK_subscribe_40 : decode cCK_subscribe 40 = .ok (.iload 5, 2) := by decide +kernel
theorem dCK_subscribe_42 : decode cCK_subscribe 42 = .ok (.ireturn, 1) := by decide +kernel
theorem dCK_checkChannel_0 : decode cCK_checkChannel 0 = .ok (.iload_n 0, 1) := by decide +kernel
theorem dCK_checkChannel_1 : decode cCK_checkChannel 1 = .ok (.invokestatic 195, 3) := by decide +kernel
theorem dCK_checkChannel_4 : decode cCK_checkChannel 4 = .ok (.ifCond .ne 13, 3) := by decide +kernel
theorem dCK_checkChannel_7 : decode cCK_checkChannel 7 = .ok (.new 201, 3) := by decide +kernel
theorem dCK_checkChannel_10 : decode cCK_checkChannel 10 = .ok (.dup, 1) := by decide +kernel
theorem dCK_checkChannel_11 : decode cCK_checkChannel 11 = .ok (.ldc 249, 2) := by decide +kernel
theorem dCK_checkChannel_13 : decode cCK_checkChannel 13 = .ok (.invokespecial 205, 3) := by decide +kernel
theorem dCK_checkChannel_16 : decode cCK_checkChannel 16 = .ok (.athrow, 1) := by decide +kernel
theorem dCK_checkChannel_17 : decode cCK_checkChannel 17 = .ok (.return_, 1) := by decide +kernel
theorem dCK_isChannel_0 : decode cCK_isChannel 0 = .ok (.iload_n 0, 1) := by decide +kernel
theorem dCK_isChannel_1 : decode cCK_isChannel 1 = .ok (.ifCond .lt 12, 3) := by decide +kernel
theorem dCK_isChannel_4 : decode cCK_isChannel 4 = .ok (.iload_n 0, 1) := by decide +kernel
theorem dCK_isChannel_5 : decode cCK_isChannel 5 = .ok (.iconst 4, 1) := by decide +kernel
theorem dCK_isChannel_6 : decode cCK_isChannel 6 = .ok (.if_icmp .ge 7, 3) := by decide +kernel
theorem dCK_isChannel_9 : decode cCK_isChannel 9 = .ok (.iconst 1, 1) := by decide +kernel
theorem dCK_isChannel_10 : decode cCK_isChannel 10 = .ok (.goto 4, 3) := by decide +kernel
theorem dCK_isChannel_13 : decode cCK_isChannel 13 = .ok (.iconst 0, 1) := by decide +kernel
theorem dCK_isChannel_14 : decode cCK_isChannel 14 = .ok (.ireturn, 1) := by decide +kernel
theorem dCK_period_0 : decode cCK_period 0 = .ok (.iload_n 1, 1) := by decide +kernel
theorem dCK_period_1 : decode cCK_period 1 = .ok (.invokestatic 86, 3) := by decide +kernel
theorem dCK_period_4 : decode cCK_period 4 = .ok (.aload_n 0, 1) := by decide +kernel
theorem dCK_period_5 : decode cCK_period 5 = .ok (.getfield 46, 3) := by decide +kernel
theorem dCK_period_8 : decode cCK_period 8 = .ok (.iload_n 1, 1) := by decide +kernel
theorem dCK_period_9 : decode cCK_period 9 = .ok (.aaload, 1) := by decide +kernel
theorem dCK_period_10 : decode cCK_period 10 = .ok (.astore 6, 2) := by decide +kernel
theorem dCK_period_12 : decode cCK_period 12 = .ok (.aload 6, 2) := by decide +kernel
theorem dCK_period_14 : decode cCK_period 14 = .ok (.getfield 93, 3) := by decide +kernel
theorem dCK_period_17 : decode cCK_period 17 = .ok (.sipush 999, 3) := by decide +kernel
theorem dCK_period_20 : decode cCK_period 20 = .ok (.if_icmp .lt 13, 3) := by decide +kernel
theorem dCK_period_23 : decode cCK_period 23 = .ok (.new 97, 3) := by decide +kernel
theorem dCK_period_26 : decode cCK_period 26 = .ok (.dup, 1) := by decide +kernel
theorem dCK_period_27 : decode cCK_period 27 = .ok (.ldc 99, 2) := by decide +kernel
theorem dCK_period_29 : decode cCK_period 29 = .ok (.invokespecial 101, 3) := by decide +kernel
theorem dCK_period_32 : decode cCK_period 32 = .ok (.athrow, 1) := by decide +kernel
theorem dCK_period_33 : decode cCK_period 33 = .ok (.aload 6, 2) := by decide +kernel
theorem dCK_period_35 : decode cCK_period 35 = .ok (.lload_n 2, 1) := by decide +kernel
theorem dCK_period_36 : decode cCK_period 36 = .ok (.lload 4, 2) := by decide +kernel
theorem dCK_period_38 : decode cCK_period 38 = .ok (.invokevirtual 102, 3) := by decide +kernel
theorem dCK_period_41 : decode cCK_period 41 = .ok (.aload_n 0, 1) := by decide +kernel
theorem dCK_period_42 : decode cCK_period 42 = .ok (.getfield 26, 3) := by decide +kernel
theorem dCK_period_45 : decode cCK_period 45 = .ok (.aload_n 0, 1) := by decide +kernel
theorem dCK_period_46 : decode cCK_period 46 = .ok (.getfield 19, 3) := by decide +kernel
theorem dCK_period_49 : decode cCK_period 49 = .ok (.aload 6, 2) := by decide +kernel
theorem dCK_period_51 : decode cCK_period 51 = .ok (.invokevirtual 106, 3) := by decide +kernel
theorem dCK_period_54 : decode cCK_period 54 = .ok (.aload 6, 2) := by decide +kernel
theorem dCK_period_56 : decode cCK_period 56 = .ok (.getfield 110, 3) := by decide +kernel
theorem dCK_period_59 : decode cCK_period 59 = .ok (.ireturn, 1) := by decide +kernel
theorem dCK_packet_0 : decode cCK_packet 0 = .ok (.iload_n 1, 1) := by decide +kernel
theorem dCK_packet_1 : decode cCK_packet 1 = .ok (.invokestatic 86, 3) := by decide +kernel
theorem dCK_packet_4 : decode cCK_packet 4 = .ok (.aload_n 0, 1) := by decide +kernel
theorem dCK_packet_5 : decode cCK_packet 5 = .ok (.iload_n 1, 1) := by decide +kernel
theorem dCK_packet_6 : decode cCK_packet 6 = .ok (.invokevirtual 113, 3) := by decide +kernel
theorem dCK_packet_9 : decode cCK_packet 9 = .ok (.aload_n 0, 1) := by decide +kernel
theorem dCK_packet_10 : decode cCK_packet 10 = .ok (.getfield 46, 3) := by decide +kernel
theorem dCK_packet_13 : decode cCK_packet 13 = .ok (.iload_n 1, 1) := by decide +kernel
theorem dCK_packet_14 : decode cCK_packet 14 = .ok (.aaload, 1) := by decide +kernel
theorem dCK_packet_15 : decode cCK_packet 15 = .ok (.astore_n 3, 1) := by decide +kernel
theorem dCK_packet_16 : decode cCK_packet 16 = .ok (.iload_n 2, 1) := by decide +kernel
theorem dCK_packet_17 : decode cCK_packet 17 = .ok (.ifCond .lt 11, 3) := by decide +kernel
theorem dCK_packet_20 : decode cCK_packet 20 = .ok (.iload_n 2, 1) := by decide +kernel
theorem dCK_packet_21 : decode cCK_packet 21 = .ok (.aload_n 3, 1) := by decide +kernel
theorem dCK_packet_22 : decode cCK_packet 22 = .ok (.invokevirtual 116, 3) := by decide +kernel
theorem dCK_packet_25 : decode cCK_packet 25 = .ok (.if_icmp .lt 13, 3) := by decide +kernel
theorem dCK_packet_28 : decode cCK_packet 28 = .ok (.new 61, 3) := by decide +kernel
theorem dCK_packet_31 : decode cCK_packet 31 = .ok (.dup, 1) := by decide +kernel
theorem dCK_packet_32 : decode cCK_packet 32 = .ok (.ldc 119, 2) := by decide +kernel
theorem dCK_packet_34 : decode cCK_packet 34 = .ok (.invokespecial 65, 3) := by decide +kernel
theorem dCK_packet_37 : decode cCK_packet 37 = .ok (.athrow, 1) := by decide +kernel
theorem dCK_packet_38 : decode cCK_packet 38 = .ok (.aload_n 0, 1) := by decide +kernel
theorem dCK_packet_39 : decode cCK_packet 39 = .ok (.getfield 40, 3) := by decide +kernel
theorem dCK_packet_42 : decode cCK_packet 42 = .ok (.invokevirtual 68, 3) := by decide +kernel
theorem dCK_packet_45 : decode cCK_packet 45 = .ok (.aload_n 0, 1) := by decide +kernel
theorem dCK_packet_46 : decode cCK_packet 46 = .ok (.getfield 40, 3) := by decide +kernel
theorem dCK_packet_49 : decode cCK_packet 49 = .ok (.iload_n 1, 1) := by decide +kernel
theorem dCK_packet_50 : decode cCK_packet 50 = .ok (.i2l, 1) := by decide +kernel
theorem dCK_packet_51 : decode cCK_packet 51 = .ok (.iconst 1, 1) := by decide +kernel
theorem dCK_packet_52 : decode cCK_packet 52 = .ok (.invokevirtual 121, 3) := by decide +kernel
theorem dCK_packet_55 : decode cCK_packet 55 = .ok (.aload_n 0, 1) := by decide +kernel
theorem dCK_packet_56 : decode cCK_packet 56 = .ok (.getfield 40, 3) := by decide +kernel
theorem dCK_packet_59 : decode cCK_packet 59 = .ok (.aload_n 3, 1) := by decide +kernel
theorem dCK_packet_60 : decode cCK_packet 60 = .ok (.getfield 93, 3) := by decide +kernel
theorem dCK_packet_63 : decode cCK_packet 63 = .ok (.i2l, 1) := by decide +kernel
theorem dCK_packet_64 : decode cCK_packet 64 = .ok (.iconst 2, 1) := by decide +kernel
theorem dCK_packet_65 : decode cCK_packet 65 = .ok (.invokevirtual 121, 3) := by decide +kernel
theorem dCK_packet_68 : decode cCK_packet 68 = .ok (.aload_n 0, 1) := by decide +kernel
theorem dCK_packet_69 : decode cCK_packet 69 = .ok (.getfield 40, 3) := by decide +kernel
theorem dCK_packet_72 : decode cCK_packet 72 = .ok (.iload_n 2, 1) := by decide +kernel
theorem dCK_packet_73 : decode cCK_packet 73 = .ok (.i2l, 1) := by decide +kernel
theorem dCK_packet_74 : decode cCK_packet 74 = .ok (.iconst 1, 1) := by decide +kernel
theorem dCK_packet_75 : decode cCK_packet 75 = .ok (.invokevirtual 121, 3) := by decide +kernel
theorem dCK_packet_78 : decode cCK_packet 78 = .ok (.aload_n 0, 1) := by decide +kernel
theorem dCK_packet_79 : decode cCK_packet 79 = .ok (.getfield 40, 3) := by decide +kernel
theorem dCK_packet_82 : decode cCK_packet 82 = .ok (.aload_n 3, 1) := by decide +kernel
theorem dCK_packet_83 : decode cCK_packet 83 = .ok (.invokevirtual 116, 3) := by decide +kernel
theorem dCK_packet_86 : decode cCK_packet 86 = .ok (.i2l, 1) := by decide +kernel
theorem dCK_packet_87 : decode cCK_packet 87 = .ok (.iconst 1, 1) := by decide +kernel
theorem dCK_packet_88 : decode cCK_packet 88 = .ok (.invokevirtual 121, 3) := by decide +kernel
theorem dCK_packet_91 : decode cCK_packet 91 = .ok (.aload_n 3, 1) := by decide +kernel
theorem dCK_packet_92 : decode cCK_packet 92 = .ok (.getfield 110, 3) := by decide +kernel
theorem dCK_packet_95 : decode cCK_packet 95 = .ok (.iload_n 2, 1) := by decide +kernel
theorem dCK_packet_96 : decode cCK_packet 96 = .ok (.iconst 1, 1) := by decide +kernel
theorem dCK_packet_97 : decode cCK_packet 97 = .ok (.iadd, 1) := by decide +kernel
theorem dCK_packet_98 : decode cCK_packet 98 = .ok (.bipush 8, 2) := by decide +kernel
theorem dCK_packet_100 : decode cCK_packet 100 = .ok (.imul, 1) := by decide +kernel
theorem dCK_packet_101 : decode cCK_packet 101 = .ok (.invokestatic 125, 3) := by decide +kernel
theorem dCK_packet_104 : decode cCK_packet 104 = .ok (.istore 4, 2) := by decide +kernel
theorem dCK_packet_106 : decode cCK_packet 106 = .ok (.iload_n 2, 1) := by decide +kernel
theorem dCK_packet_107 : decode cCK_packet 107 = .ok (.bipush 8, 2) := by decide +kernel
theorem dCK_packet_109 : decode cCK_packet 109 = .ok (.imul, 1) := by decide +kernel
theorem dCK_packet_110 : decode cCK_packet 110 = .ok (.istore 5, 2) := by decide +kernel
theorem dCK_packet_112 : decode cCK_packet 112 = .ok (.iload 5, 2) := by decide +kernel
theorem dCK_packet_114 : decode cCK_packet 114 = .ok (.iload 4, 2) := by decide +kernel
theorem dCK_packet_116 : decode cCK_packet 116 = .ok (.if_icmp .ge 16, 3) := by decide +kernel
theorem dCK_packet_119 : decode cCK_packet 119 = .ok (.aload_n 0, 1) := by decide +kernel
theorem dCK_packet_120 : decode cCK_packet 120 = .ok (.aload_n 3, 1) := by decide +kernel
theorem dCK_packet_121 : decode cCK_packet 121 = .ok (.iload 5, 2) := by decide +kernel
theorem dCK_packet_123 : decode cCK_packet 123 = .ok (.invokevirtual 131, 3) := by decide +kernel
theorem dCK_packet_126 : decode cCK_packet 126 = .ok (.iinc 5 1, 3) := by decide +kernel
theorem dCK_packet_129 : decode cCK_packet 129 = .ok (.goto (-17), 3) := by decide +kernel
theorem dCK_packet_132 : decode cCK_packet 132 = .ok (.aload_n 0, 1) := by decide +kernel
theorem dCK_packet_133 : decode cCK_packet 133 = .ok (.getfield 40, 3) := by decide +kernel
theorem dCK_packet_136 : decode cCK_packet 136 = .ok (.getfield 135, 3) := by decide +kernel
theorem dCK_packet_139 : decode cCK_packet 139 = .ok (.ireturn, 1) := by decide +kernel
theorem dCK_checkBegan_0 : decode cCK_checkBegan 0 = .ok (.aload_n 0, 1) := by decide +kernel
theorem dCK_checkBegan_1 : decode cCK_checkBegan 1 = .ok (.getfield 46, 3) := by decide +kernel
theorem dCK_checkBegan_4 : decode cCK_checkBegan 4 = .ok (.iload_n 1, 1) := by decide +kernel
theorem dCK_checkBegan_5 : decode cCK_checkBegan 5 = .ok (.aaload, 1) := by decide +kernel
theorem dCK_checkBegan_6 : decode cCK_checkBegan 6 = .ok (.getfield 93, 3) := by decide +kernel
theorem dCK_checkBegan_9 : decode cCK_checkBegan 9 = .ok (.ifCond .ne 14, 3) := by decide +kernel
theorem dCK_checkBegan_12 : decode cCK_checkBegan 12 = .ok (.new 76, 3) := by decide +kernel
theorem dCK_checkBegan_15 : decode cCK_checkBegan 15 = .ok (.dup, 1) := by decide +kernel
theorem dCK_checkBegan_16 : decode cCK_checkBegan 16 = .ok (.ldc_w 258, 3) := by decide +kernel
theorem dCK_checkBegan_19 : decode cCK_checkBegan 19 = .ok (.invokespecial 80, 3) := by decide +kernel
theorem dCK_checkBegan_22 : decode cCK_checkBegan 22 = .ok (.athrow, 1) := by decide +kernel
theorem dCK_checkBegan_23 : decode cCK_checkBegan 23 = .ok (.return_, 1) := by decide +kernel
theorem dCK_putEntry_0 : decode cCK_putEntry 0 = .ok (.aload_n 0, 1) := by decide +kernel
theorem dCK_putEntry_1 : decode cCK_putEntry 1 = .ok (.getfield 19, 3) := by decide +kernel
theorem dCK_putEntry_4 : decode cCK_putEntry 4 = .ok (.aload_n 0, 1) := by decide +kernel
theorem dCK_putEntry_5 : decode cCK_putEntry 5 = .ok (.getfield 12, 3) := by decide +kernel
theorem dCK_putEntry_8 : decode cCK_putEntry 8 = .ok (.aload_n 1, 1) := by decide +kernel
theorem dCK_putEntry_9 : decode cCK_putEntry 9 = .ok (.getfield 209, 3) := by decide +kernel
theorem dCK_putEntry_12 : decode cCK_putEntry 12 = .ok (.iload_n 2, 1) := by decide +kernel
theorem dCK_putEntry_13 : decode cCK_putEntry 13 = .ok (.iaload, 1) := by decide +kernel
theorem dCK_putEntry_14 : decode cCK_putEntry 14 = .ok (.aload_n 1, 1) := by decide +kernel
theorem dCK_putEntry_15 : decode cCK_putEntry 15 = .ok (.getfield 206, 3) := by decide +kernel
theorem dCK_putEntry_18 : decode cCK_putEntry 18 = .ok (.iload_n 2, 1) := by decide +kernel
theorem dCK_putEntry_19 : decode cCK_putEntry 19 = .ok (.iaload, 1) := by decide +kernel
theorem dCK_putEntry_20 : decode cCK_putEntry 20 = .ok (.invokevirtual 235, 3) := by decide +kernel
theorem dCK_putEntry_23 : decode cCK_putEntry 23 = .ok (.aload_n 0, 1) := by decide +kernel
theorem dCK_putEntry_24 : decode cCK_putEntry 24 = .ok (.getfield 12, 3) := by decide +kernel
theorem dCK_putEntry_27 : decode cCK_putEntry 27 = .ok (.aload_n 0, 1) := by decide +kernel
theorem dCK_putEntry_28 : decode cCK_putEntry 28 = .ok (.getfield 12, 3) := by decide +kernel
theorem dCK_putEntry_31 : decode cCK_putEntry 31 = .ok (.getfield 227, 3) := by decide +kernel
theorem dCK_putEntry_34 : decode cCK_putEntry 34 = .ok (.aload_n 0, 1) := by decide +kernel
theorem dCK_putEntry_35 : decode cCK_putEntry 35 = .ok (.getfield 12, 3) := by decide +kernel
theorem dCK_putEntry_38 : decode cCK_putEntry 38 = .ok (.getfield 228, 3) := by decide +kernel
theorem dCK_putEntry_41 : decode cCK_putEntry 41 = .ok (.invokevirtual 173, 3) := by decide +kernel
theorem dCK_putEntry_44 : decode cCK_putEntry 44 = .ok (.aload_n 0, 1) := by decide +kernel
theorem dCK_putEntry_45 : decode cCK_putEntry 45 = .ok (.getfield 33, 3) := by decide +kernel
theorem dCK_putEntry_48 : decode cCK_putEntry 48 = .ok (.aload_n 0, 1) := by decide +kernel
theorem dCK_putEntry_49 : decode cCK_putEntry 49 = .ok (.getfield 12, 3) := by decide +kernel
theorem dCK_putEntry_52 : decode cCK_putEntry 52 = .ok (.aload_n 1, 1) := by decide +kernel
theorem dCK_putEntry_53 : decode cCK_putEntry 53 = .ok (.getfield 171, 3) := by decide +kernel
theorem dCK_putEntry_56 : decode cCK_putEntry 56 = .ok (.aload_n 1, 1) := by decide +kernel
theorem dCK_putEntry_57 : decode cCK_putEntry 57 = .ok (.getfield 172, 3) := by decide +kernel
theorem dCK_putEntry_60 : decode cCK_putEntry 60 = .ok (.invokevirtual 262, 3) := by decide +kernel
theorem dCK_putEntry_63 : decode cCK_putEntry 63 = .ok (.aload_n 0, 1) := by decide +kernel
theorem dCK_putEntry_64 : decode cCK_putEntry 64 = .ok (.getfield 40, 3) := by decide +kernel
theorem dCK_putEntry_67 : decode cCK_putEntry 67 = .ok (.aload_n 1, 1) := by decide +kernel
theorem dCK_putEntry_68 : decode cCK_putEntry 68 = .ok (.getfield 209, 3) := by decide +kernel
theorem dCK_putEntry_71 : decode cCK_putEntry 71 = .ok (.iload_n 2, 1) := by decide +kernel
theorem dCK_putEntry_72 : decode cCK_putEntry 72 = .ok (.iaload, 1) := by decide +kernel
theorem dCK_putEntry_73 : decode cCK_putEntry 73 = .ok (.i2l, 1) := by decide +kernel
theorem dCK_putEntry_74 : decode cCK_putEntry 74 = .ok (.iconst 2, 1) := by decide +kernel
theorem dCK_putEntry_75 : decode cCK_putEntry 75 = .ok (.invokevirtual 121, 3) := by decide +kernel
theorem dCK_putEntry_78 : decode cCK_putEntry 78 = .ok (.aload_n 0, 1) := by decide +kernel
theorem dCK_putEntry_79 : decode cCK_putEntry 79 = .ok (.getfield 40, 3) := by decide +kernel
theorem dCK_putEntry_82 : decode cCK_putEntry 82 = .ok (.aload_n 1, 1) := by decide +kernel
theorem dCK_putEntry_83 : decode cCK_putEntry 83 = .ok (.getfield 206, 3) := by decide +kernel
theorem dCK_putEntry_86 : decode cCK_putEntry 86 = .ok (.iload_n 2, 1) := by decide +kernel
theorem dCK_putEntry_87 : decode cCK_putEntry 87 = .ok (.iaload, 1) := by decide +kernel
theorem dCK_putEntry_88 : decode cCK_putEntry 88 = .ok (.i2l, 1) := by decide +kernel
theorem dCK_putEntry_89 : decode cCK_putEntry 89 = .ok (.iconst 2, 1) := by decide +kernel
theorem dCK_putEntry_90 : decode cCK_putEntry 90 = .ok (.invokevirtual 121, 3) := by decide +kernel
theorem dCK_putEntry_93 : decode cCK_putEntry 93 = .ok (.aload_n 0, 1) := by decide +kernel
theorem dCK_putEntry_94 : decode cCK_putEntry 94 = .ok (.getfield 40, 3) := by decide +kernel
theorem dCK_putEntry_97 : decode cCK_putEntry 97 = .ok (.aload_n 0, 1) := by decide +kernel
theorem dCK_putEntry_98 : decode cCK_putEntry 98 = .ok (.getfield 33, 3) := by decide +kernel
theorem dCK_putEntry_101 : decode cCK_putEntry 101 = .ok (.getfield 266, 3) := by decide +kernel
theorem dCK_putEntry_104 : decode cCK_putEntry 104 = .ok (.bipush 8, 2) := by decide +kernel
theorem dCK_putEntry_106 : decode cCK_putEntry 106 = .ok (.invokevirtual 121, 3) := by decide +kernel
theorem dCK_putEntry_109 : decode cCK_putEntry 109 = .ok (.aload_n 0, 1) := by decide +kernel
theorem dCK_putEntry_110 : decode cCK_putEntry 110 = .ok (.getfield 40, 3) := by decide +kernel
theorem dCK_putEntry_113 : decode cCK_putEntry 113 = .ok (.aload_n 0, 1) := by decide +kernel
theorem dCK_putEntry_114 : decode cCK_putEntry 114 = .ok (.getfield 33, 3) := by decide +kernel
theorem dCK_putEntry_117 : decode cCK_putEntry 117 = .ok (.getfield 158, 3) := by decide +kernel
theorem dCK_putEntry_120 : decode cCK_putEntry 120 = .ok (.bipush 8, 2) := by decide +kernel
theorem dCK_putEntry_122 : decode cCK_putEntry 122 = .ok (.invokevirtual 121, 3) := by decide +kernel
theorem dCK_putEntry_125 : decode cCK_putEntry 125 = .ok (.aload_n 0, 1) := by decide +kernel
theorem dCK_putEntry_126 : decode cCK_putEntry 126 = .ok (.getfield 40, 3) := by decide +kernel
theorem dCK_putEntry_129 : decode cCK_putEntry 129 = .ok (.aload_n 0, 1) := by decide +kernel
theorem dCK_putEntry_130 : decode cCK_putEntry 130 = .ok (.getfield 33, 3) := by decide +kernel
theorem dCK_putEntry_133 : decode cCK_putEntry 133 = .ok (.getfield 162, 3) := by decide +kernel
theorem dCK_putEntry_136 : decode cCK_putEntry 136 = .ok (.bipush 8, 2) := by decide +kernel
theorem dCK_putEntry_138 : decode cCK_putEntry 138 = .ok (.invokevirtual 121, 3) := by decide +kernel
theorem dCK_putEntry_141 : decode cCK_putEntry 141 = .ok (.return_, 1) := by decide +kernel
theorem dCK_air_0 : decode cCK_air 0 = .ok (.aload_n 0, 1) := by decide +kernel
theorem dCK_air_1 : decode cCK_air 1 = .ok (.iload_n 1, 1) := by decide +kernel
theorem dCK_air_2 : decode cCK_air 2 = .ok (.invokevirtual 138, 3) := by decide +kernel
theorem dCK_air_5 : decode cCK_air 5 = .ok (.aload_n 0, 1) := by decide +kernel
theorem dCK_air_6 : decode cCK_air 6 = .ok (.getfield 40, 3) := by decide +kernel
theorem dCK_air_9 : decode cCK_air 9 = .ok (.getfield 141, 3) := by decide +kernel
theorem dCK_air_12 : decode cCK_air 12 = .ok (.iload_n 1, 1) := by decide +kernel
theorem dCK_air_13 : decode cCK_air 13 = .ok (.iaload, 1) := by decide +kernel
theorem dCK_air_14 : decode cCK_air 14 = .ok (.ireturn, 1) := by decide +kernel
theorem dCK_checkByte_0 : decode cCK_checkByte 0 = .ok (.iload_n 1, 1) := by decide +kernel
theorem dCK_checkByte_1 : decode cCK_checkByte 1 = .ok (.ifCond .lt 14, 3) := by decide +kernel
theorem dCK_checkByte_4 : decode cCK_checkByte 4 = .ok (.iload_n 1, 1) := by decide +kernel
theorem dCK_checkByte_5 : decode cCK_checkByte 5 = .ok (.aload_n 0, 1) := by decide +kernel
theorem dCK_checkByte_6 : decode cCK_checkByte 6 = .ok (.getfield 40, 3) := by decide +kernel
theorem dCK_checkByte_9 : decode cCK_checkByte 9 = .ok (.getfield 135, 3) := by decide +kernel
theorem dCK_checkByte_12 : decode cCK_checkByte 12 = .ok (.if_icmp .lt 14, 3) := by decide +kernel
theorem dCK_checkByte_15 : decode cCK_checkByte 15 = .ok (.new 201, 3) := by decide +kernel
theorem dCK_checkByte_18 : decode cCK_checkByte 18 = .ok (.dup, 1) := by decide +kernel
theorem dCK_checkByte_19 : decode cCK_checkByte 19 = .ok (.ldc_w 256, 3) := by decide +kernel
theorem dCK_checkByte_22 : decode cCK_checkByte 22 = .ok (.invokespecial 205, 3) := by decide +kernel
theorem dCK_checkByte_25 : decode cCK_checkByte 25 = .ok (.athrow, 1) := by decide +kernel
theorem dCK_checkByte_26 : decode cCK_checkByte 26 = .ok (.return_, 1) := by decide +kernel
theorem dCK_flip_0 : decode cCK_flip 0 = .ok (.aload_n 0, 1) := by decide +kernel
theorem dCK_flip_1 : decode cCK_flip 1 = .ok (.iload_n 1, 1) := by decide +kernel
theorem dCK_flip_2 : decode cCK_flip 2 = .ok (.invokevirtual 138, 3) := by decide +kernel
theorem dCK_flip_5 : decode cCK_flip 5 = .ok (.aload_n 0, 1) := by decide +kernel
theorem dCK_flip_6 : decode cCK_flip 6 = .ok (.getfield 40, 3) := by decide +kernel
theorem dCK_flip_9 : decode cCK_flip 9 = .ok (.getfield 141, 3) := by decide +kernel
theorem dCK_flip_12 : decode cCK_flip 12 = .ok (.iload_n 1, 1) := by decide +kernel
theorem dCK_flip_13 : decode cCK_flip 13 = .ok (.dup2, 1) := by decide +kernel
theorem dCK_flip_14 : decode cCK_flip 14 = .ok (.iaload, 1) := by decide +kernel
theorem dCK_flip_15 : decode cCK_flip 15 = .ok (.iload_n 2, 1) := by decide +kernel
theorem dCK_flip_16 : decode cCK_flip 16 = .ok (.sipush 255, 3) := by decide +kernel
theorem dCK_flip_19 : decode cCK_flip 19 = .ok (.iand, 1) := by decide +kernel
theorem dCK_flip_20 : decode cCK_flip 20 = .ok (.ixor, 1) := by decide +kernel
theorem dCK_flip_21 : decode cCK_flip 21 = .ok (.iastore, 1) := by decide +kernel
theorem dCK_flip_22 : decode cCK_flip 22 = .ok (.return_, 1) := by decide +kernel
theorem dCK_hear_0 : decode cCK_hear 0 = .ok (.aload_n 0, 1) := by decide +kernel
theorem dCK_hear_1 : decode cCK_hear 1 = .ok (.iload_n 1, 1) := by decide +kernel
theorem dCK_hear_2 : decode cCK_hear 2 = .ok (.invokevirtual 72, 3) := by decide +kernel
theorem dCK_hear_5 : decode cCK_hear 5 = .ok (.aload_n 0, 1) := by decide +kernel
theorem dCK_hear_6 : decode cCK_hear 6 = .ok (.getfield 52, 3) := by decide +kernel
theorem dCK_hear_9 : decode cCK_hear 9 = .ok (.iload_n 1, 1) := by decide +kernel
theorem dCK_hear_10 : decode cCK_hear 10 = .ok (.aaload, 1) := by decide +kernel
theorem dCK_hear_11 : decode cCK_hear 11 = .ok (.astore_n 2, 1) := by decide +kernel
theorem dCK_hear_12 : decode cCK_hear 12 = .ok (.aload_n 2, 1) := by decide +kernel
theorem dCK_hear_13 : decode cCK_hear 13 = .ok (.ifnull 13, 3) := by decide +kernel
theorem dCK_hear_16 : decode cCK_hear 16 = .ok (.aload_n 0, 1) := by decide +kernel
theorem dCK_hear_17 : decode cCK_hear 17 = .ok (.getfield 40, 3) := by decide +kernel
theorem dCK_hear_20 : decode cCK_hear 20 = .ok (.getfield 135, 3) := by decide +kernel
theorem dCK_hear_23 : decode cCK_hear 23 = .ok (.ifCond .ne 13, 3) := by decide +kernel
theorem dCK_hear_26 : decode cCK_hear 26 = .ok (.new 76, 3) := by decide +kernel
theorem dCK_hear_29 : decode cCK_hear 29 = .ok (.dup, 1) := by decide +kernel
theorem dCK_hear_30 : decode cCK_hear 30 = .ok (.ldc 145, 2) := by decide +kernel
theorem dCK_hear_32 : decode cCK_hear 32 = .ok (.invokespecial 80, 3) := by decide +kernel
theorem dCK_hear_35 : decode cCK_hear 35 = .ok (.athrow, 1) := by decide +kernel
theorem dCK_hear_36 : decode cCK_hear 36 = .ok (.aload_n 0, 1) := by decide +kernel
theorem dCK_hear_37 : decode cCK_hear 37 = .ok (.getfield 40, 3) := by decide +kernel
theorem dCK_hear_40 : decode cCK_hear 40 = .ok (.iconst 0, 1) := by decide +kernel
theorem dCK_hear_41 : decode cCK_hear 41 = .ok (.iconst 1, 1) := by decide +kernel
theorem dCK_hear_42 : decode cCK_hear 42 = .ok (.invokevirtual 147, 3) := by decide +kernel
theorem dCK_hear_45 : decode cCK_hear 45 = .ok (.l2i, 1) := by decide +kernel
theorem dCK_hear_46 : decode cCK_hear 46 = .ok (.istore_n 3, 1) := by decide +kernel
theorem dCK_hear_47 : decode cCK_hear 47 = .ok (.iload_n 3, 1) := by decide +kernel
theorem dCK_hear_48 : decode cCK_hear 48 = .ok (.iconst 4, 1) := by decide +kernel
theorem dCK_hear_49 : decode cCK_hear 49 = .ok (.if_icmp .lt 5, 3) := by decide +kernel
theorem dCK_hear_52 : decode cCK_hear 52 = .ok (.iconst 0, 1) := by decide +kernel
theorem dCK_hear_53 : decode cCK_hear 53 = .ok (.ireturn, 1) := by decide +kernel
theorem dCK_hear_54 : decode cCK_hear 54 = .ok (.iconst 0, 1) := by decide +kernel
theorem dCK_hear_55 : decode cCK_hear 55 = .ok (.istore 4, 2) := by decide +kernel
theorem dCK_hear_57 : decode cCK_hear 57 = .ok (.iconst 5, 1) := by decide +kernel
theorem dCK_hear_58 : decode cCK_hear 58 = .ok (.istore 5, 2) := by decide +kernel
theorem dCK_hear_60 : decode cCK_hear 60 = .ok (.iload 5, 2) := by decide +kernel
theorem dCK_hear_62 : decode cCK_hear 62 = .ok (.bipush 28, 2) := by decide +kernel
theorem dCK_hear_64 : decode cCK_hear 64 = .ok (.iadd, 1) := by decide +kernel
theorem dCK_hear_65 : decode cCK_hear 65 = .ok (.aload_n 0, 1) := by decide +kernel
theorem dCK_hear_66 : decode cCK_hear 66 = .ok (.getfield 40, 3) := by decide +kernel
theorem dCK_hear_69 : decode cCK_hear 69 = .ok (.getfield 135, 3) := by decide +kernel
theorem dCK_hear_72 : decode cCK_hear 72 = .ok (.if_icmp .gt 99, 3) := by decide +kernel
theorem dCK_hear_75 : decode cCK_hear 75 = .ok (.aload_n 0, 1) := by decide +kernel
theorem dCK_hear_76 : decode cCK_hear 76 = .ok (.getfield 40, 3) := by decide +kernel
theorem dCK_hear_79 : decode cCK_hear 79 = .ok (.iload 5, 2) := by decide +kernel
theorem dCK_hear_81 : decode cCK_hear 81 = .ok (.iconst 2, 1) := by decide +kernel
theorem dCK_hear_82 : decode cCK_hear 82 = .ok (.invokevirtual 147, 3) := by decide +kernel
theorem dCK_hear_85 : decode cCK_hear 85 = .ok (.l2i, 1) := by decide +kernel
theorem dCK_hear_86 : decode cCK_hear 86 = .ok (.istore 6, 2) := by decide +kernel
theorem dCK_hear_88 : decode cCK_hear 88 = .ok (.aload_n 0, 1) := by decide +kernel
theorem dCK_hear_89 : decode cCK_hear 89 = .ok (.getfield 40, 3) := by decide +kernel
theorem dCK_hear_92 : decode cCK_hear 92 = .ok (.iload 5, 2) := by decide +kernel
theorem dCK_hear_94 : decode cCK_hear 94 = .ok (.iconst 2, 1) := by decide +kernel
theorem dCK_hear_95 : decode cCK_hear 95 = .ok (.iadd, 1) := by decide +kernel
theorem dCK_hear_96 : decode cCK_hear 96 = .ok (.iconst 2, 1) := by decide +kernel
theorem dCK_hear_97 : decode cCK_hear 97 = .ok (.invokevirtual 147, 3) := by decide +kernel
theorem dCK_hear_100 : decode cCK_hear 100 = .ok (.l2i, 1) := by decide +kernel
theorem dCK_hear_101 : decode cCK_hear 101 = .ok (.istore 7, 2) := by decide +kernel
theorem dCK_hear_103 : decode cCK_hear 103 = .ok (.aload_n 0, 1) := by decide +kernel
theorem dCK_hear_104 : decode cCK_hear 104 = .ok (.getfield 19, 3) := by decide +kernel
theorem dCK_hear_107 : decode cCK_hear 107 = .ok (.iload_n 1, 1) := by decide +kernel
theorem dCK_hear_108 : decode cCK_hear 108 = .ok (.iload 6, 2) := by decide +kernel
theorem dCK_hear_110 : decode cCK_hear 110 = .ok (.iload 7, 2) := by decide +kernel
theorem dCK_hear_112 : decode cCK_hear 112 = .ok (.invokevirtual 151, 3) := by decide +kernel
theorem dCK_hear_115 : decode cCK_hear 115 = .ok (.ifCond .eq 50, 3) := by decide +kernel
theorem dCK_hear_118 : decode cCK_hear 118 = .ok (.aload_n 0, 1) := by decide +kernel
theorem dCK_hear_119 : decode cCK_hear 119 = .ok (.iload 5, 2) := by decide +kernel
theorem dCK_hear_121 : decode cCK_hear 121 = .ok (.iload 6, 2) := by decide +kernel
theorem dCK_hear_123 : decode cCK_hear 123 = .ok (.iload 7, 2) := by decide +kernel
theorem dCK_hear_125 : decode cCK_hear 125 = .ok (.invokevirtual 155, 3) := by decide +kernel
theorem dCK_hear_128 : decode cCK_hear 128 = .ok (.ifCond .eq 34, 3) := by decide +kernel
theorem dCK_hear_131 : decode cCK_hear 131 = .ok (.aload_n 2, 1) := by decide +kernel
theorem dCK_hear_132 : decode cCK_hear 132 = .ok (.iload_n 3, 1) := by decide +kernel
theorem dCK_hear_133 : decode cCK_hear 133 = .ok (.aload_n 0, 1) := by decide +kernel
theorem dCK_hear_134 : decode cCK_hear 134 = .ok (.getfield 40, 3) := by decide +kernel
theorem dCK_hear_137 : decode cCK_hear 137 = .ok (.iconst 1, 1) := by decide +kernel
theorem dCK_hear_138 : decode cCK_hear 138 = .ok (.iconst 2, 1) := by decide +kernel
theorem dCK_hear_139 : decode cCK_hear 139 = .ok (.invokevirtual 147, 3) := by decide +kernel
theorem dCK_hear_142 : decode cCK_hear 142 = .ok (.l2i, 1) := by decide +kernel
theorem dCK_hear_143 : decode cCK_hear 143 = .ok (.aload_n 0, 1) := by decide +kernel
theorem dCK_hear_144 : decode cCK_hear 144 = .ok (.getfield 33, 3) := by decide +kernel
theorem dCK_hear_147 : decode cCK_hear 147 = .ok (.getfield 158, 3) := by decide +kernel
theorem dCK_hear_150 : decode cCK_hear 150 = .ok (.aload_n 0, 1) := by decide +kernel
theorem dCK_hear_151 : decode cCK_hear 151 = .ok (.getfield 33, 3) := by decide +kernel
theorem dCK_hear_154 : decode cCK_hear 154 = .ok (.getfield 162, 3) := by decide +kernel
theorem dCK_hear_157 : decode cCK_hear 157 = .ok (.invokevirtual 165, 3) := by decide +kernel
theorem dCK_hear_160 : decode cCK_hear 160 = .ok (.iconst 1, 1) := by decide +kernel
theorem dCK_hear_161 : decode cCK_hear 161 = .ok (.ireturn, 1) := by decide +kernel
theorem dCK_hear_162 : decode cCK_hear 162 = .ok (.iconst 1, 1) := by decide +kernel
theorem dCK_hear_163 : decode cCK_hear 163 = .ok (.istore 4, 2) := by decide +kernel
theorem dCK_hear_165 : decode cCK_hear 165 = .ok (.iinc 5 28, 3) := by decide +kernel
theorem dCK_hear_168 : decode cCK_hear 168 = .ok (.goto (-108), 3) := by decide +kernel
theorem dCK_hear_171 : decode cCK_hear 171 = .ok (.iload 4, 2) := by decide +kernel
theorem dCK_hear_173 : decode cCK_hear 173 = .ok (.ifCond .eq 7, 3) := by decide +kernel
theorem dCK_hear_176 : decode cCK_hear 176 = .ok (.iconst (-1), 1) := by decide +kernel
theorem dCK_hear_177 : decode cCK_hear 177 = .ok (.goto 4, 3) := by decide +kernel
theorem dCK_hear_180 : decode cCK_hear 180 = .ok (.iconst 0, 1) := by decide +kernel
theorem dCK_hear_181 : decode cCK_hear 181 = .ok (.ireturn, 1) := by decide +kernel
theorem dCK_unwrapEntry_0 : decode cCK_unwrapEntry 0 = .ok (.aload_n 0, 1) := by decide +kernel
theorem dCK_unwrapEntry_1 : decode cCK_unwrapEntry 1 = .ok (.getfield 19, 3) := by decide +kernel
theorem dCK_unwrapEntry_4 : decode cCK_unwrapEntry 4 = .ok (.aload_n 0, 1) := by decide +kernel
theorem dCK_unwrapEntry_5 : decode cCK_unwrapEntry 5 = .ok (.getfield 12, 3) := by decide +kernel
theorem dCK_unwrapEntry_8 : decode cCK_unwrapEntry 8 = .ok (.iload_n 2, 1) := by decide +kernel
theorem dCK_unwrapEntry_9 : decode cCK_unwrapEntry 9 = .ok (.iload_n 3, 1) := by decide +kernel
theorem dCK_unwrapEntry_10 : decode cCK_unwrapEntry 10 = .ok (.invokevirtual 235, 3) := by decide +kernel
theorem dCK_unwrapEntry_13 : decode cCK_unwrapEntry 13 = .ok (.aload_n 0, 1) := by decide +kernel
theorem dCK_unwrapEntry_14 : decode cCK_unwrapEntry 14 = .ok (.getfield 12, 3) := by decide +kernel
theorem dCK_unwrapEntry_17 : decode cCK_unwrapEntry 17 = .ok (.aload_n 0, 1) := by decide +kernel
theorem dCK_unwrapEntry_18 : decode cCK_unwrapEntry 18 = .ok (.getfield 12, 3) := by decide +kernel
theorem dCK_unwrapEntry_21 : decode cCK_unwrapEntry 21 = .ok (.getfield 227, 3) := by decide +kernel
theorem dCK_unwrapEntry_24 : decode cCK_unwrapEntry 24 = .ok (.aload_n 0, 1) := by decide +kernel
theorem dCK_unwrapEntry_25 : decode cCK_unwrapEntry 25 = .ok (.getfield 12, 3) := by decide +kernel
theorem dCK_unwrapEntry_28 : decode cCK_unwrapEntry 28 = .ok (.getfield 228, 3) := by decide +kernel
theorem dCK_unwrapEntry_31 : decode cCK_unwrapEntry 31 = .ok (.invokevirtual 173, 3) := by decide +kernel
theorem dCK_unwrapEntry_34 : decode cCK_unwrapEntry 34 = .ok (.aload_n 0, 1) := by decide +kernel
theorem dCK_unwrapEntry_35 : decode cCK_unwrapEntry 35 = .ok (.getfield 33, 3) := by decide +kernel
theorem dCK_unwrapEntry_38 : decode cCK_unwrapEntry 38 = .ok (.aload_n 0, 1) := by decide +kernel
theorem dCK_unwrapEntry_39 : decode cCK_unwrapEntry 39 = .ok (.getfield 40, 3) := by decide +kernel
theorem dCK_unwrapEntry_42 : decode cCK_unwrapEntry 42 = .ok (.iload_n 1, 1) := by decide +kernel
theorem dCK_unwrapEntry_43 : decode cCK_unwrapEntry 43 = .ok (.iconst 4, 1) := by decide +kernel
theorem dCK_unwrapEntry_44 : decode cCK_unwrapEntry 44 = .ok (.iadd, 1) := by decide +kernel
theorem dCK_unwrapEntry_45 : decode cCK_unwrapEntry 45 = .ok (.bipush 8, 2) := by decide +kernel
theorem dCK_unwrapEntry_47 : decode cCK_unwrapEntry 47 = .ok (.invokevirtual 147, 3) := by decide +kernel
theorem dCK_unwrapEntry_50 : decode cCK_unwrapEntry 50 = .ok (.putfield 266, 3) := by decide +kernel
theorem dCK_unwrapEntry_53 : decode cCK_unwrapEntry 53 = .ok (.aload_n 0, 1) := by decide +kernel
theorem dCK_unwrapEntry_54 : decode cCK_unwrapEntry 54 = .ok (.getfield 33, 3) := by decide +kernel
theorem dCK_unwrapEntry_57 : decode cCK_unwrapEntry 57 = .ok (.aload_n 0, 1) := by decide +kernel
theorem dCK_unwrapEntry_58 : decode cCK_unwrapEntry 58 = .ok (.getfield 40, 3) := by decide +kernel
theorem dCK_unwrapEntry_61 : decode cCK_unwrapEntry 61 = .ok (.iload_n 1, 1) := by decide +kernel
theorem dCK_unwrapEntry_62 : decode cCK_unwrapEntry 62 = .ok (.bipush 12, 2) := by decide +kernel
theorem dCK_unwrapEntry_64 : decode cCK_unwrapEntry 64 = .ok (.iadd, 1) := by decide +kernel
theorem dCK_unwrapEntry_65 : decode cCK_unwrapEntry 65 = .ok (.bipush 8, 2) := by decide +kernel
theorem dCK_unwrapEntry_67 : decode cCK_unwrapEntry 67 = .ok (.invokevirtual 147, 3) := by decide +kernel
theorem dCK_unwrapEntry_70 : decode cCK_unwrapEntry 70 = .ok (.putfield 158, 3) := by decide +kernel
theorem dCK_unwrapEntry_73 : decode cCK_unwrapEntry 73 = .ok (.aload_n 0, 1) := by decide +kernel
theorem dCK_unwrapEntry_74 : decode cCK_unwrapEntry 74 = .ok (.getfield 33, 3) := by decide +kernel
theorem dCK_unwrapEntry_77 : decode cCK_unwrapEntry 77 = .ok (.aload_n 0, 1) := by decide +kernel
theorem dCK_unwrapEntry_78 : decode cCK_unwrapEntry 78 = .ok (.getfield 40, 3) := by decide +kernel
theorem dCK_unwrapEntry_81 : decode cCK_unwrapEntry 81 = .ok (.iload_n 1, 1) := by decide +kernel
theorem dCK_unwrapEntry_82 : decode cCK_unwrapEntry 82 = .ok (.bipush 20, 2) := by decide +kernel
theorem dCK_unwrapEntry_84 : decode cCK_unwrapEntry 84 = .ok (.iadd, 1) := by decide +kernel
theorem dCK_unwrapEntry_85 : decode cCK_unwrapEntry 85 = .ok (.bipush 8, 2) := by decide +kernel
theorem dCK_unwrapEntry_87 : decode cCK_unwrapEntry 87 = .ok (.invokevirtual 147, 3) := by decide +kernel
theorem dCK_unwrapEntry_90 : decode cCK_unwrapEntry 90 = .ok (.putfield 162, 3) := by decide +kernel
theorem dCK_unwrapEntry_93 : decode cCK_unwrapEntry 93 = .ok (.aload_n 0, 1) := by decide +kernel
theorem dCK_unwrapEntry_94 : decode cCK_unwrapEntry 94 = .ok (.getfield 33, 3) := by decide +kernel
theorem dCK_unwrapEntry_97 : decode cCK_unwrapEntry 97 = .ok (.aload_n 0, 1) := by decide +kernel
theorem dCK_unwrapEntry_98 : decode cCK_unwrapEntry 98 = .ok (.getfield 12, 3) := by decide +kernel
theorem dCK_unwrapEntry_101 : decode cCK_unwrapEntry 101 = .ok (.invokevirtual 269, 3) := by decide +kernel
theorem dCK_unwrapEntry_104 : decode cCK_unwrapEntry 104 = .ok (.ireturn, 1) := by decide +kernel
theorem dCK_has_0 : decode cCK_has 0 = .ok (.aload_n 0, 1) := by decide +kernel
theorem dCK_has_1 : decode cCK_has 1 = .ok (.iload_n 1, 1) := by decide +kernel
theorem dCK_has_2 : decode cCK_has 2 = .ok (.invokevirtual 72, 3) := by decide +kernel
theorem dCK_has_5 : decode cCK_has 5 = .ok (.iload_n 2, 1) := by decide +kernel
theorem dCK_has_6 : decode cCK_has 6 = .ok (.invokestatic 86, 3) := by decide +kernel
theorem dCK_has_9 : decode cCK_has 9 = .ok (.aload_n 0, 1) := by decide +kernel
theorem dCK_has_10 : decode cCK_has 10 = .ok (.getfield 52, 3) := by decide +kernel
theorem dCK_has_13 : decode cCK_has 13 = .ok (.iload_n 1, 1) := by decide +kernel
theorem dCK_has_14 : decode cCK_has 14 = .ok (.aaload, 1) := by decide +kernel
theorem dCK_has_15 : decode cCK_has 15 = .ok (.astore_n 3, 1) := by decide +kernel
theorem dCK_has_16 : decode cCK_has 16 = .ok (.aload_n 3, 1) := by decide +kernel
theorem dCK_has_17 : decode cCK_has 17 = .ok (.ifnonnull 7, 3) := by decide +kernel
theorem dCK_has_20 : decode cCK_has 20 = .ok (.iconst (-1), 1) := by decide +kernel
theorem dCK_has_21 : decode cCK_has 21 = .ok (.goto 9, 3) := by decide +kernel
theorem dCK_has_24 : decode cCK_has 24 = .ok (.aload_n 3, 1) := by decide +kernel
theorem dCK_has_25 : decode cCK_has 25 = .ok (.getfield 169, 3) := by decide +kernel
theorem dCK_has_28 : decode cCK_has 28 = .ok (.iload_n 2, 1) := by decide +kernel
theorem dCK_has_29 : decode cCK_has 29 = .ok (.iaload, 1) := by decide +kernel
theorem dCK_has_30 : decode cCK_has 30 = .ok (.ireturn, 1) := by decide +kernel
theorem dCK_seal_0 : decode cCK_seal 0 = .ok (.iload_n 1, 1) := by decide +kernel
theorem dCK_seal_1 : decode cCK_seal 1 = .ok (.invokestatic 86, 3) := by decide +kernel
theorem dCK_seal_4 : decode cCK_seal 4 = .ok (.aload_n 0, 1) := by decide +kernel
theorem dCK_seal_5 : decode cCK_seal 5 = .ok (.iload_n 1, 1) := by decide +kernel
theorem dCK_seal_6 : decode cCK_seal 6 = .ok (.invokevirtual 113, 3) := by decide +kernel
theorem dCK_seal_9 : decode cCK_seal 9 = .ok (.aload_n 0, 1) := by decide +kernel
theorem dCK_seal_10 : decode cCK_seal 10 = .ok (.getfield 46, 3) := by decide +kernel
theorem dCK_seal_13 : decode cCK_seal 13 = .ok (.iload_n 1, 1) := by decide +kernel
theorem dCK_seal_14 : decode cCK_seal 14 = .ok (.aaload, 1) := by decide +kernel
theorem dCK_seal_15 : decode cCK_seal 15 = .ok (.astore 8, 2) := by decide +kernel
theorem dCK_seal_17 : decode cCK_seal 17 = .ok (.aload_n 0, 1) := by decide +kernel
theorem dCK_seal_18 : decode cCK_seal 18 = .ok (.getfield 12, 3) := by decide +kernel
theorem dCK_seal_21 : decode cCK_seal 21 = .ok (.aload 8, 2) := by decide +kernel
theorem dCK_seal_23 : decode cCK_seal 23 = .ok (.getfield 171, 3) := by decide +kernel
theorem dCK_seal_26 : decode cCK_seal 26 = .ok (.aload 8, 2) := by decide +kernel
theorem dCK_seal_28 : decode cCK_seal 28 = .ok (.getfield 172, 3) := by decide +kernel
theorem dCK_seal_31 : decode cCK_seal 31 = .ok (.invokevirtual 173, 3) := by decide +kernel
theorem dCK_seal_34 : decode cCK_seal 34 = .ok (.aload_n 0, 1) := by decide +kernel
theorem dCK_seal_35 : decode cCK_seal 35 = .ok (.iload_n 1, 1) := by decide +kernel
theorem dCK_seal_36 : decode cCK_seal 36 = .ok (.aload 8, 2) := by decide +kernel
theorem dCK_seal_38 : decode cCK_seal 38 = .ok (.getfield 93, 3) := by decide +kernel
theorem dCK_seal_41 : decode cCK_seal 41 = .ok (.lload_n 2, 1) := by decide +kernel
theorem dCK_seal_42 : decode cCK_seal 42 = .ok (.lload 4, 2) := by decide +kernel
theorem dCK_seal_44 : decode cCK_seal 44 = .ok (.lload 6, 2) := by decide +kernel
theorem dCK_seal_46 : decode cCK_seal 46 = .ok (.invokevirtual 176, 3) := by decide +kernel
theorem dCK_seal_49 : decode cCK_seal 49 = .ok (.return_, 1) := by decide +kernel
theorem dCK_maskBlock_0 : decode cCK_maskBlock 0 = .ok (.aload_n 0, 1) := by decide +kernel
theorem dCK_maskBlock_1 : decode cCK_maskBlock 1 = .ok (.getfield 12, 3) := by decide +kernel
theorem dCK_maskBlock_4 : decode cCK_maskBlock 4 = .ok (.ldc2_w 273, 3) := by decide +kernel
theorem dCK_maskBlock_7 : decode cCK_maskBlock 7 = .ok (.iload_n 1, 1) := by decide +kernel
theorem dCK_maskBlock_8 : decode cCK_maskBlock 8 = .ok (.i2l, 1) := by decide +kernel
theorem dCK_maskBlock_9 : decode cCK_maskBlock 9 = .ok (.lmul, 1) := by decide +kernel
theorem dCK_maskBlock_10 : decode cCK_maskBlock 10 = .ok (.iload_n 2, 1) := by decide +kernel
theorem dCK_maskBlock_11 : decode cCK_maskBlock 11 = .ok (.i2l, 1) := by decide +kernel
theorem dCK_maskBlock_12 : decode cCK_maskBlock 12 = .ok (.ladd, 1) := by decide +kernel
theorem dCK_maskBlock_13 : decode cCK_maskBlock 13 = .ok (.lload_n 3, 1) := by decide +kernel
theorem dCK_maskBlock_14 : decode cCK_maskBlock 14 = .ok (.invokevirtual 275, 3) := by decide +kernel
theorem dCK_maskBlock_17 : decode cCK_maskBlock 17 = .ok (.aload_n 0, 1) := by decide +kernel
theorem dCK_maskBlock_18 : decode cCK_maskBlock 18 = .ok (.lload 5, 2) := by decide +kernel
theorem dCK_maskBlock_20 : decode cCK_maskBlock 20 = .ok (.aload_n 0, 1) := by decide +kernel
theorem dCK_maskBlock_21 : decode cCK_maskBlock 21 = .ok (.getfield 12, 3) := by decide +kernel
theorem dCK_maskBlock_24 : decode cCK_maskBlock 24 = .ok (.getfield 227, 3) := by decide +kernel
theorem dCK_maskBlock_27 : decode cCK_maskBlock 27 = .ok (.lxor, 1) := by decide +kernel
theorem dCK_maskBlock_28 : decode cCK_maskBlock 28 = .ok (.putfield 192, 3) := by decide +kernel
theorem dCK_maskBlock_31 : decode cCK_maskBlock 31 = .ok (.aload_n 0, 1) := by decide +kernel
theorem dCK_maskBlock_32 : decode cCK_maskBlock 32 = .ok (.lload 7, 2) := by decide +kernel
theorem dCK_maskBlock_34 : decode cCK_maskBlock 34 = .ok (.aload_n 0, 1) := by decide +kernel
theorem dCK_maskBlock_35 : decode cCK_maskBlock 35 = .ok (.getfield 12, 3) := by decide +kernel
theorem dCK_maskBlock_38 : decode cCK_maskBlock 38 = .ok (.getfield 228, 3) := by decide +kernel
theorem dCK_maskBlock_41 : decode cCK_maskBlock 41 = .ok (.lxor, 1) := by decide +kernel
theorem dCK_maskBlock_42 : decode cCK_maskBlock 42 = .ok (.putfield 189, 3) := by decide +kernel
theorem dCK_maskBlock_45 : decode cCK_maskBlock 45 = .ok (.return_, 1) := by decide +kernel
theorem dCK_open_0 : decode cCK_open 0 = .ok (.aload_n 0, 1) := by decide +kernel
theorem dCK_open_1 : decode cCK_open 1 = .ok (.iload_n 1, 1) := by decide +kernel
theorem dCK_open_2 : decode cCK_open 2 = .ok (.invokevirtual 72, 3) := by decide +kernel
theorem dCK_open_5 : decode cCK_open 5 = .ok (.iload_n 2, 1) := by decide +kernel
theorem dCK_open_6 : decode cCK_open 6 = .ok (.invokestatic 86, 3) := by decide +kernel
theorem dCK_open_9 : decode cCK_open 9 = .ok (.aload_n 0, 1) := by decide +kernel
theorem dCK_open_10 : decode cCK_open 10 = .ok (.getfield 52, 3) := by decide +kernel
theorem dCK_open_13 : decode cCK_open 13 = .ok (.iload_n 1, 1) := by decide +kernel
theorem dCK_open_14 : decode cCK_open 14 = .ok (.aaload, 1) := by decide +kernel
theorem dCK_open_15 : decode cCK_open 15 = .ok (.astore 9, 2) := by decide +kernel
theorem dCK_open_17 : decode cCK_open 17 = .ok (.aload 9, 2) := by decide +kernel
theorem dCK_open_19 : decode cCK_open 19 = .ok (.ifnull 14, 3) := by decide +kernel
theorem dCK_open_22 : decode cCK_open 22 = .ok (.aload 9, 2) := by decide +kernel
theorem dCK_open_24 : decode cCK_open 24 = .ok (.getfield 169, 3) := by decide +kernel
theorem dCK_open_27 : decode cCK_open 27 = .ok (.iload_n 2, 1) := by decide +kernel
theorem dCK_open_28 : decode cCK_open 28 = .ok (.iaload, 1) := by decide +kernel
theorem dCK_open_29 : decode cCK_open 29 = .ok (.iconst (-1), 1) := by decide +kernel
theorem dCK_open_30 : decode cCK_open 30 = .ok (.if_icmp .ne 13, 3) := by decide +kernel
theorem dCK_open_33 : decode cCK_open 33 = .ok (.new 76, 3) := by decide +kernel
theorem dCK_open_36 : decode cCK_open 36 = .ok (.dup, 1) := by decide +kernel
theorem dCK_open_37 : decode cCK_open 37 = .ok (.ldc 180, 2) := by decide +kernel
theorem dCK_open_39 : decode cCK_open 39 = .ok (.invokespecial 80, 3) := by decide +kernel
theorem dCK_open_42 : decode cCK_open 42 = .ok (.athrow, 1) := by decide +kernel
theorem dCK_open_43 : decode cCK_open 43 = .ok (.aload_n 0, 1) := by decide +kernel
theorem dCK_open_44 : decode cCK_open 44 = .ok (.getfield 12, 3) := by decide +kernel
theorem dCK_open_47 : decode cCK_open 47 = .ok (.aload 9, 2) := by decide +kernel
theorem dCK_open_49 : decode cCK_open 49 = .ok (.getfield 182, 3) := by decide +kernel
theorem dCK_open_52 : decode cCK_open 52 = .ok (.iload_n 2, 1) := by decide +kernel
theorem dCK_open_53 : decode cCK_open 53 = .ok (.laload, 1) := by decide +kernel
theorem dCK_open_54 : decode cCK_open 54 = .ok (.aload 9, 2) := by decide +kernel
theorem dCK_open_56 : decode cCK_open 56 = .ok (.getfield 186, 3) := by decide +kernel
theorem dCK_open_59 : decode cCK_open 59 = .ok (.iload_n 2, 1) := by decide +kernel
theorem dCK_open_60 : decode cCK_open 60 = .ok (.laload, 1) := by decide +kernel
theorem dCK_open_61 : decode cCK_open 61 = .ok (.invokevirtual 173, 3) := by decide +kernel
theorem dCK_open_64 : decode cCK_open 64 = .ok (.aload_n 0, 1) := by decide +kernel
theorem dCK_open_65 : decode cCK_open 65 = .ok (.iload_n 2, 1) := by decide +kernel
theorem dCK_open_66 : decode cCK_open 66 = .ok (.aload 9, 2) := by decide +kernel
theorem dCK_open_68 : decode cCK_open 68 = .ok (.getfield 169, 3) := by decide +kernel
theorem dCK_open_71 : decode cCK_open 71 = .ok (.iload_n 2, 1) := by decide +kernel
theorem dCK_open_72 : decode cCK_open 72 = .ok (.iaload, 1) := by decide +kernel
theorem dCK_open_73 : decode cCK_open 73 = .ok (.lload_n 3, 1) := by decide +kernel
theorem dCK_open_74 : decode cCK_open 74 = .ok (.lload 5, 2) := by decide +kernel
theorem dCK_open_76 : decode cCK_open 76 = .ok (.lload 7, 2) := by decide +kernel
theorem dCK_open_78 : decode cCK_open 78 = .ok (.invokevirtual 176, 3) := by decide +kernel
theorem dCK_open_81 : decode cCK_open 81 = .ok (.return_, 1) := by decide +kernel
theorem dCK_subset_0 : decode cCK_subset 0 = .ok (.iload_n 1, 1) := by decide +kernel
theorem dCK_subset_1 : decode cCK_subset 1 = .ok (.invokestatic 195, 3) := by decide +kernel
theorem dCK_subset_4 : decode cCK_subset 4 = .ok (.ifCond .ne 13, 3) := by decide +kernel
theorem dCK_subset_7 : decode cCK_subset 7 = .ok (.new 76, 3) := by decide +kernel
theorem dCK_subset_10 : decode cCK_subset 10 = .ok (.dup, 1) := by decide +kernel
theorem dCK_subset_11 : decode cCK_subset 11 = .ok (.ldc 199, 2) := by decide +kernel
theorem dCK_subset_13 : decode cCK_subset 13 = .ok (.invokespecial 80, 3) := by decide +kernel
theorem dCK_subset_16 : decode cCK_subset 16 = .ok (.athrow, 1) := by decide +kernel
theorem dCK_subset_17 : decode cCK_subset 17 = .ok (.aload_n 0, 1) := by decide +kernel
theorem dCK_subset_18 : decode cCK_subset 18 = .ok (.iload_n 1, 1) := by decide +kernel
theorem dCK_subset_19 : decode cCK_subset 19 = .ok (.invokevirtual 113, 3) := by decide +kernel
theorem dCK_subset_22 : decode cCK_subset 22 = .ok (.aload_n 0, 1) := by decide +kernel
theorem dCK_subset_23 : decode cCK_subset 23 = .ok (.getfield 46, 3) := by decide +kernel
theorem dCK_subset_26 : decode cCK_subset 26 = .ok (.iload_n 1, 1) := by decide +kernel
theorem dCK_subset_27 : decode cCK_subset 27 = .ok (.aaload, 1) := by decide +kernel
theorem dCK_subset_28 : decode cCK_subset 28 = .ok (.astore 4, 2) := by decide +kernel
theorem dCK_subset_30 : decode cCK_subset 30 = .ok (.iload_n 2, 1) := by decide +kernel
theorem dCK_subset_31 : decode cCK_subset 31 = .ok (.ifCond .lt 12, 3) := by decide +kernel
theorem dCK_subset_34 : decode cCK_subset 34 = .ok (.iload_n 2, 1) := by decide +kernel
theorem dCK_subset_35 : decode cCK_subset 35 = .ok (.aload 4, 2) := by decide +kernel
theorem dCK_subset_37 : decode cCK_subset 37 = .ok (.getfield 110, 3) := by decide +kernel
theorem dCK_subset_40 : decode cCK_subset 40 = .ok (.if_icmp .lt 13, 3) := by decide +kernel
theorem dCK_subset_43 : decode cCK_subset 43 = .ok (.new 201, 3) := by decide +kernel
theorem dCK_subset_46 : decode cCK_subset 46 = .ok (.dup, 1) := by decide +kernel
theorem dCK_subset_47 : decode cCK_subset 47 = .ok (.ldc 203, 2) := by decide +kernel
theorem dCK_subset_49 : decode cCK_subset 49 = .ok (.invokespecial 205, 3) := by decide +kernel
theorem dCK_subset_52 : decode cCK_subset 52 = .ok (.athrow, 1) := by decide +kernel
theorem dCK_subset_53 : decode cCK_subset 53 = .ok (.iload_n 3, 1) := by decide +kernel
theorem dCK_subset_54 : decode cCK_subset 54 = .ok (.ifCond .eq 13, 3) := by decide +kernel
theorem dCK_subset_57 : decode cCK_subset 57 = .ok (.aload 4, 2) := by decide +kernel
theorem dCK_subset_59 : decode cCK_subset 59 = .ok (.getfield 206, 3) := by decide +kernel
theorem dCK_subset_62 : decode cCK_subset 62 = .ok (.iload_n 2, 1) := by decide +kernel
theorem dCK_subset_63 : decode cCK_subset 63 = .ok (.iaload, 1) := by decide +kernel
theorem dCK_subset_64 : decode cCK_subset 64 = .ok (.goto 10, 3) := by decide +kernel
theorem dCK_subset_67 : decode cCK_subset 67 = .ok (.aload 4, 2) := by decide +kernel
theorem dCK_subset_69 : decode cCK_subset 69 = .ok (.getfield 209, 3) := by decide +kernel
theorem dCK_subset_72 : decode cCK_subset 72 = .ok (.iload_n 2, 1) := by decide +kernel
theorem dCK_subset_73 : decode cCK_subset 73 = .ok (.iaload, 1) := by decide +kernel
theorem dCK_subset_74 : decode cCK_subset 74 = .ok (.ireturn, 1) := by decide +kernel
theorem dCK_label_0 : decode cCK_label 0 = .ok (.aload_n 0, 1) := by decide +kernel
theorem dCK_label_1 : decode cCK_label 1 = .ok (.iload_n 1, 1) := by decide +kernel
theorem dCK_label_2 : decode cCK_label 2 = .ok (.invokevirtual 72, 3) := by decide +kernel
theorem dCK_label_5 : decode cCK_label 5 = .ok (.aload_n 0, 1) := by decide +kernel
theorem dCK_label_6 : decode cCK_label 6 = .ok (.iload_n 1, 1) := by decide +kernel
theorem dCK_label_7 : decode cCK_label 7 = .ok (.invokevirtual 212, 3) := by decide +kernel
theorem dCK_label_10 : decode cCK_label 10 = .ok (.iload_n 3, 1) := by decide +kernel
theorem dCK_label_11 : decode cCK_label 11 = .ok (.ifCond .lt 23, 3) := by decide +kernel
theorem dCK_label_14 : decode cCK_label 14 = .ok (.iload_n 3, 1) := by decide +kernel
theorem dCK_label_15 : decode cCK_label 15 = .ok (.iconst 3, 1) := by decide +kernel
theorem dCK_label_16 : decode cCK_label 16 = .ok (.if_icmp .gt 18, 3) := by decide +kernel
theorem dCK_label_19 : decode cCK_label 19 = .ok (.iload_n 2, 1) := by decide +kernel
theorem dCK_label_20 : decode cCK_label 20 = .ok (.ifCond .lt 14, 3) := by decide +kernel
theorem dCK_label_23 : decode cCK_label 23 = .ok (.iload_n 2, 1) := by decide +kernel
theorem dCK_label_24 : decode cCK_label 24 = .ok (.aload_n 0, 1) := by decide +kernel
theorem dCK_label_25 : decode cCK_label 25 = .ok (.getfield 19, 3) := by decide +kernel
theorem dCK_label_28 : decode cCK_label 28 = .ok (.invokevirtual 82, 3) := by decide +kernel
theorem dCK_label_31 : decode cCK_label 31 = .ok (.if_icmp .lt 13, 3) := by decide +kernel
theorem dCK_label_34 : decode cCK_label 34 = .ok (.new 61, 3) := by decide +kernel
theorem dCK_label_37 : decode cCK_label 37 = .ok (.dup, 1) := by decide +kernel
theorem dCK_label_38 : decode cCK_label 38 = .ok (.ldc 215, 2) := by decide +kernel
theorem dCK_label_40 : decode cCK_label 40 = .ok (.invokespecial 65, 3) := by decide +kernel
theorem dCK_label_43 : decode cCK_label 43 = .ok (.athrow, 1) := by decide +kernel
theorem dCK_label_44 : decode cCK_label 44 = .ok (.aload_n 0, 1) := by decide +kernel
theorem dCK_label_45 : decode cCK_label 45 = .ok (.getfield 19, 3) := by decide +kernel
theorem dCK_label_48 : decode cCK_label 48 = .ok (.iload_n 1, 1) := by decide +kernel
theorem dCK_label_49 : decode cCK_label 49 = .ok (.iload_n 2, 1) := by decide +kernel
theorem dCK_label_50 : decode cCK_label 50 = .ok (.invokevirtual 217, 3) := by decide +kernel
theorem dCK_label_53 : decode cCK_label 53 = .ok (.istore 4, 2) := by decide +kernel
theorem dCK_label_55 : decode cCK_label 55 = .ok (.aload_n 0, 1) := by decide +kernel
theorem dCK_label_56 : decode cCK_label 56 = .ok (.getfield 19, 3) := by decide +kernel
theorem dCK_label_59 : decode cCK_label 59 = .ok (.iload_n 1, 1) := by decide +kernel
theorem dCK_label_60 : decode cCK_label 60 = .ok (.iload_n 2, 1) := by decide +kernel
theorem dCK_label_61 : decode cCK_label 61 = .ok (.invokevirtual 220, 3) := by decide +kernel
theorem dCK_label_64 : decode cCK_label 64 = .ok (.istore 5, 2) := by decide +kernel
theorem dCK_label_66 : decode cCK_label 66 = .ok (.iload_n 3, 1) := by decide +kernel
theorem dCK_label_67 : decode cCK_label 67 = .ok (.iconst 2, 1) := by decide +kernel
theorem dCK_label_68 : decode cCK_label 68 = .ok (.if_icmp .ge 17, 3) := by decide +kernel
theorem dCK_label_71 : decode cCK_label 71 = .ok (.iload_n 3, 1) := by decide +kernel
theorem dCK_label_72 : decode cCK_label 72 = .ok (.ifCond .ne 9, 3) := by decide +kernel
theorem dCK_label_75 : decode cCK_label 75 = .ok (.iload 4, 2) := by decide +kernel
theorem dCK_label_77 : decode cCK_label 77 = .ok (.i2l, 1) := by decide +kernel
theorem dCK_label_78 : decode cCK_label 78 = .ok (.goto 6, 3) := by decide +kernel
theorem dCK_label_81 : decode cCK_label 81 = .ok (.iload 5, 2) := by decide +kernel
theorem dCK_label_83 : decode cCK_label 83 = .ok (.i2l, 1) := by decide +kernel
theorem dCK_label_84 : decode cCK_label 84 = .ok (.lreturn, 1) := by decide +kernel
theorem dCK_label_85 : decode cCK_label 85 = .ok (.aload_n 0, 1) := by decide +kernel
theorem dCK_label_86 : decode cCK_label 86 = .ok (.getfield 19, 3) := by decide +kernel
theorem dCK_label_89 : decode cCK_label 89 = .ok (.aload_n 0, 1) := by decide +kernel
theorem dCK_label_90 : decode cCK_label 90 = .ok (.getfield 12, 3) := by decide +kernel
theorem dCK_label_93 : decode cCK_label 93 = .ok (.iload 4, 2) := by decide +kernel
theorem dCK_label_95 : decode cCK_label 95 = .ok (.iload 5, 2) := by decide +kernel
theorem dCK_label_97 : decode cCK_label 97 = .ok (.invokevirtual 223, 3) := by decide +kernel
theorem dCK_label_100 : decode cCK_label 100 = .ok (.iload_n 3, 1) := by decide +kernel
theorem dCK_label_101 : decode cCK_label 101 = .ok (.iconst 2, 1) := by decide +kernel
theorem dCK_label_102 : decode cCK_label 102 = .ok (.if_icmp .ne 13, 3) := by decide +kernel
theorem dCK_label_105 : decode cCK_label 105 = .ok (.aload_n 0, 1) := by decide +kernel
theorem dCK_label_106 : decode cCK_label 106 = .ok (.getfield 12, 3) := by decide +kernel
theorem dCK_label_109 : decode cCK_label 109 = .ok (.getfield 227, 3) := by decide +kernel
theorem dCK_label_112 : decode cCK_label 112 = .ok (.goto 10, 3) := by decide +kernel
theorem dCK_label_115 : decode cCK_label 115 = .ok (.aload_n 0, 1) := by decide +kernel
theorem dCK_label_116 : decode cCK_label 116 = .ok (.getfield 12, 3) := by decide +kernel
theorem dCK_label_119 : decode cCK_label 119 = .ok (.getfield 228, 3) := by decide +kernel
theorem dCK_label_122 : decode cCK_label 122 = .ok (.lreturn, 1) := by decide +kernel
theorem dCK_checkInstalled_0 : decode cCK_checkInstalled 0 = .ok (.aload_n 0, 1) := by decide +kernel
theorem dCK_checkInstalled_1 : decode cCK_checkInstalled 1 = .ok (.getfield 52, 3) := by decide +kernel
theorem dCK_checkInstalled_4 : decode cCK_checkInstalled 4 = .ok (.iload_n 1, 1) := by decide +kernel
theorem dCK_checkInstalled_5 : decode cCK_checkInstalled 5 = .ok (.aaload, 1) := by decide +kernel
theorem dCK_checkInstalled_6 : decode cCK_checkInstalled 6 = .ok (.ifnonnull 14, 3) := by decide +kernel
theorem dCK_checkInstalled_9 : decode cCK_checkInstalled 9 = .ok (.new 76, 3) := by decide +kernel
theorem dCK_checkInstalled_12 : decode cCK_checkInstalled 12 = .ok (.dup, 1) := by decide +kernel
theorem dCK_checkInstalled_13 : decode cCK_checkInstalled 13 = .ok (.ldc_w 260, 3) := by decide +kernel
theorem dCK_checkInstalled_16 : decode cCK_checkInstalled 16 = .ok (.invokespecial 80, 3) := by decide +kernel
theorem dCK_checkInstalled_19 : decode cCK_checkInstalled 19 = .ok (.athrow, 1) := by decide +kernel
theorem dCK_checkInstalled_20 : decode cCK_checkInstalled 20 = .ok (.return_, 1) := by decide +kernel
theorem dCK_reach_0 : decode cCK_reach 0 = .ok (.aload_n 0, 1) := by decide +kernel
theorem dCK_reach_1 : decode cCK_reach 1 = .ok (.iload_n 1, 1) := by decide +kernel
theorem dCK_reach_2 : decode cCK_reach 2 = .ok (.invokevirtual 72, 3) := by decide +kernel
theorem dCK_reach_5 : decode cCK_reach 5 = .ok (.iload_n 2, 1) := by decide +kernel
theorem dCK_reach_6 : decode cCK_reach 6 = .ok (.invokestatic 86, 3) := by decide +kernel
theorem dCK_reach_9 : decode cCK_reach 9 = .ok (.aload_n 0, 1) := by decide +kernel
theorem dCK_reach_10 : decode cCK_reach 10 = .ok (.iload_n 2, 1) := by decide +kernel
theorem dCK_reach_11 : decode cCK_reach 11 = .ok (.invokevirtual 113, 3) := by decide +kernel
theorem dCK_reach_14 : decode cCK_reach 14 = .ok (.aload_n 0, 1) := by decide +kernel
theorem dCK_reach_15 : decode cCK_reach 15 = .ok (.iload_n 1, 1) := by decide +kernel
theorem dCK_reach_16 : decode cCK_reach 16 = .ok (.invokevirtual 212, 3) := by decide +kernel
theorem dCK_reach_19 : decode cCK_reach 19 = .ok (.aload_n 0, 1) := by decide +kernel
theorem dCK_reach_20 : decode cCK_reach 20 = .ok (.getfield 46, 3) := by decide +kernel
theorem dCK_reach_23 : decode cCK_reach 23 = .ok (.iload_n 2, 1) := by decide +kernel
theorem dCK_reach_24 : decode cCK_reach 24 = .ok (.aaload, 1) := by decide +kernel
theorem dCK_reach_25 : decode cCK_reach 25 = .ok (.astore_n 3, 1) := by decide +kernel
theorem dCK_reach_26 : decode cCK_reach 26 = .ok (.iconst 0, 1) := by decide +kernel
theorem dCK_reach_27 : decode cCK_reach 27 = .ok (.istore 4, 2) := by decide +kernel
theorem dCK_reach_29 : decode cCK_reach 29 = .ok (.iconst 0, 1) := by decide +kernel
theorem dCK_reach_30 : decode cCK_reach 30 = .ok (.istore 5, 2) := by decide +kernel
theorem dCK_reach_32 : decode cCK_reach 32 = .ok (.iload 5, 2) := by decide +kernel
theorem dCK_reach_34 : decode cCK_reach 34 = .ok (.aload_n 3, 1) := by decide +kernel
theorem dCK_reach_35 : decode cCK_reach 35 = .ok (.getfield 110, 3) := by decide +kernel
theorem dCK_reach_38 : decode cCK_reach 38 = .ok (.if_icmp .ge 37, 3) := by decide +kernel
theorem dCK_reach_41 : decode cCK_reach 41 = .ok (.aload_n 0, 1) := by decide +kernel
theorem dCK_reach_42 : decode cCK_reach 42 = .ok (.getfield 19, 3) := by decide +kernel
theorem dCK_reach_45 : decode cCK_reach 45 = .ok (.iload_n 1, 1) := by decide +kernel
theorem dCK_reach_46 : decode cCK_reach 46 = .ok (.aload_n 3, 1) := by decide +kernel
theorem dCK_reach_47 : decode cCK_reach 47 = .ok (.getfield 209, 3) := by decide +kernel
theorem dCK_reach_50 : decode cCK_reach 50 = .ok (.iload 5, 2) := by decide +kernel
theorem dCK_reach_52 : decode cCK_reach 52 = .ok (.iaload, 1) := by decide +kernel
theorem dCK_reach_53 : decode cCK_reach 53 = .ok (.aload_n 3, 1) := by decide +kernel
theorem dCK_reach_54 : decode cCK_reach 54 = .ok (.getfield 206, 3) := by decide +kernel
theorem dCK_reach_57 : decode cCK_reach 57 = .ok (.iload 5, 2) := by decide +kernel
theorem dCK_reach_59 : decode cCK_reach 59 = .ok (.iaload, 1) := by decide +kernel
theorem dCK_reach_60 : decode cCK_reach 60 = .ok (.invokevirtual 151, 3) := by decide +kernel
theorem dCK_reach_63 : decode cCK_reach 63 = .ok (.ifCond .eq 6, 3) := by decide +kernel
theorem dCK_reach_66 : decode cCK_reach 66 = .ok (.iinc 4 1, 3) := by decide +kernel
theorem dCK_reach_69 : decode cCK_reach 69 = .ok (.iinc 5 1, 3) := by decide +kernel
theorem dCK_reach_72 : decode cCK_reach 72 = .ok (.goto (-40), 3) := by decide +kernel
theorem dCK_reach_75 : decode cCK_reach 75 = .ok (.iload 4, 2) := by decide +kernel
theorem dCK_reach_77 : decode cCK_reach 77 = .ok (.ireturn, 1) := by decide +kernel
theorem dCK_key_0 : decode cCK_key 0 = .ok (.aload_n 0, 1) := by decide +kernel
theorem dCK_key_1 : decode cCK_key 1 = .ok (.getfield 19, 3) := by decide +kernel
theorem dCK_key_4 : decode cCK_key 4 = .ok (.iload_n 1, 1) := by decide +kernel
theorem dCK_key_5 : decode cCK_key 5 = .ok (.iload_n 2, 1) := by decide +kernel
theorem dCK_key_6 : decode cCK_key 6 = .ok (.invokevirtual 229, 3) := by decide +kernel
theorem dCK_key_9 : decode cCK_key 9 = .ok (.ifCond .ne 13, 3) := by decide +kernel
theorem dCK_key_12 : decode cCK_key 12 = .ok (.new 61, 3) := by decide +kernel
theorem dCK_key_15 : decode cCK_key 15 = .ok (.dup, 1) := by decide +kernel
theorem dCK_key_16 : decode cCK_key 16 = .ok (.ldc 233, 2) := by decide +kernel
theorem dCK_key_18 : decode cCK_key 18 = .ok (.invokespecial 65, 3) := by decide +kernel
theorem dCK_key_21 : decode cCK_key 21 = .ok (.athrow, 1) := by decide +kernel
theorem dCK_key_22 : decode cCK_key 22 = .ok (.aload_n 0, 1) := by decide +kernel
theorem dCK_key_23 : decode cCK_key 23 = .ok (.getfield 19, 3) := by decide +kernel
theorem dCK_key_26 : decode cCK_key 26 = .ok (.aload_n 0, 1) := by decide +kernel
theorem dCK_key_27 : decode cCK_key 27 = .ok (.getfield 12, 3) := by decide +kernel
theorem dCK_key_30 : decode cCK_key 30 = .ok (.iload_n 1, 1) := by decide +kernel
theorem dCK_key_31 : decode cCK_key 31 = .ok (.iload_n 2, 1) := by decide +kernel
theorem dCK_key_32 : decode cCK_key 32 = .ok (.invokevirtual 235, 3) := by decide +kernel
theorem dCK_key_35 : decode cCK_key 35 = .ok (.iload_n 3, 1) := by decide +kernel
theorem dCK_key_36 : decode cCK_key 36 = .ok (.ifCond .eq 13, 3) := by decide +kernel
theorem dCK_key_39 : decode cCK_key 39 = .ok (.aload_n 0, 1) := by decide +kernel
theorem dCK_key_40 : decode cCK_key 40 = .ok (.getfield 12, 3) := by decide +kernel
theorem dCK_key_43 : decode cCK_key 43 = .ok (.getfield 228, 3) := by decide +kernel
theorem dCK_key_46 : decode cCK_key 46 = .ok (.goto 10, 3) := by decide +kernel
theorem dCK_key_49 : decode cCK_key 49 = .ok (.aload_n 0, 1) := by decide +kernel
theorem dCK_key_50 : decode cCK_key 50 = .ok (.getfield 12, 3) := by decide +kernel
theorem dCK_key_53 : decode cCK_key 53 = .ok (.getfield 227, 3) := by decide +kernel
theorem dCK_key_56 : decode cCK_key 56 = .ok (.lreturn, 1) := by decide +kernel
theorem dCK_count_0 : decode cCK_count 0 = .ok (.iload_n 1, 1) := by decide +kernel
theorem dCK_count_1 : decode cCK_count 1 = .ok (.ifCond .lt 9, 3) := by decide +kernel
theorem dCK_count_4 : decode cCK_count 4 = .ok (.iload_n 1, 1) := by decide +kernel
theorem dCK_count_5 : decode cCK_count 5 = .ok (.bipush 8, 2) := by decide +kernel
theorem dCK_count_7 : decode cCK_count 7 = .ok (.if_icmp .lt 13, 3) := by decide +kernel
theorem dCK_count_10 : decode cCK_count 10 = .ok (.new 61, 3) := by decide +kernel
theorem dCK_count_13 : decode cCK_count 13 = .ok (.dup, 1) := by decide +kernel
theorem dCK_count_14 : decode cCK_count 14 = .ok (.ldc 238, 2) := by decide +kernel
theorem dCK_count_16 : decode cCK_count 16 = .ok (.invokespecial 65, 3) := by decide +kernel
theorem dCK_count_19 : decode cCK_count 19 = .ok (.athrow, 1) := by decide +kernel
theorem dCK_count_20 : decode cCK_count 20 = .ok (.iload_n 1, 1) := by decide +kernel
theorem dCK_count_21 : decode cCK_count 21 = .ok (.tableswitch 57 0 3 #[31, 39, 44, 49], 31) := by decide +kernel
theorem dCK_count_52 : decode cCK_count 52 = .ok (.aload_n 0, 1) := by decide +kernel
theorem dCK_count_53 : decode cCK_count 53 = .ok (.getfield 19, 3) := by decide +kernel
theorem dCK_count_56 : decode cCK_count 56 = .ok (.getfield 240, 3) := by decide +kernel
theorem dCK_count_59 : decode cCK_count 59 = .ok (.ireturn, 1) := by decide +kernel
theorem dCK_count_60 : decode cCK_count 60 = .ok (.aload_n 0, 1) := by decide +kernel
theorem dCK_count_61 : decode cCK_count 61 = .ok (.invokevirtual 243, 3) := by decide +kernel
theorem dCK_count_64 : decode cCK_count 64 = .ok (.ireturn, 1) := by decide +kernel
theorem dCK_count_65 : decode cCK_count 65 = .ok (.aload_n 0, 1) := by decide +kernel
theorem dCK_count_66 : decode cCK_count 66 = .ok (.invokevirtual 246, 3) := by decide +kernel
theorem dCK_count_69 : decode cCK_count 69 = .ok (.ireturn, 1) := by decide +kernel
theorem dCK_count_70 : decode cCK_count 70 = .ok (.aload_n 0, 1) := by decide +kernel
theorem dCK_count_71 : decode cCK_count 71 = .ok (.getfield 40, 3) := by decide +kernel
theorem dCK_count_74 : decode cCK_count 74 = .ok (.getfield 135, 3) := by decide +kernel
theorem dCK_count_77 : decode cCK_count 77 = .ok (.ireturn, 1) := by decide +kernel
theorem dCK_count_78 : decode cCK_count 78 = .ok (.aload_n 0, 1) := by decide +kernel
theorem dCK_count_79 : decode cCK_count 79 = .ok (.getfield 46, 3) := by decide +kernel
theorem dCK_count_82 : decode cCK_count 82 = .ok (.iload_n 1, 1) := by decide +kernel
theorem dCK_count_83 : decode cCK_count 83 = .ok (.iconst 4, 1) := by decide +kernel
theorem dCK_count_84 : decode cCK_count 84 = .ok (.isub, 1) := by decide +kernel
theorem dCK_count_85 : decode cCK_count 85 = .ok (.aaload, 1) := by decide +kernel
theorem dCK_count_86 : decode cCK_count 86 = .ok (.getfield 93, 3) := by decide +kernel
theorem dCK_count_89 : decode cCK_count 89 = .ok (.ireturn, 1) := by decide +kernel
theorem dCK_installedDecoders_0 : decode cCK_installedDecoders 0 = .ok (.iconst 0, 1) := by decide +kernel
theorem dCK_installedDecoders_1 : decode cCK_installedDecoders 1 = .ok (.istore_n 1, 1) := by decide +kernel
theorem dCK_installedDecoders_2 : decode cCK_installedDecoders 2 = .ok (.iconst 0, 1) := by decide +kernel
theorem dCK_installedDecoders_3 : decode cCK_installedDecoders 3 = .ok (.istore_n 2, 1) := by decide +kernel
theorem dCK_installedDecoders_4 : decode cCK_installedDecoders 4 = .ok (.iload_n 2, 1) := by decide +kernel
theorem dCK_installedDecoders_5 : decode cCK_installedDecoders 5 = .ok (.sipush 256, 3) := by decide +kernel
theorem dCK_installedDecoders_8 : decode cCK_installedDecoders 8 = .ok (.if_icmp .ge 21, 3) := by decide +kernel
theorem dCK_installedDecoders_11 : decode cCK_installedDecoders 11 = .ok (.aload_n 0, 1) := by decide +kernel
theorem dCK_installedDecoders_12 : decode cCK_installedDecoders 12 = .ok (.getfield 52, 3) := by decide +kernel
theorem dCK_installedDecoders_15 : decode cCK_installedDecoders 15 = .ok (.iload_n 2, 1) := by decide +kernel
theorem dCK_installedDecoders_16 : decode cCK_installedDecoders 16 = .ok (.aaload, 1) := by decide +kernel
theorem dCK_installedDecoders_17 : decode cCK_installedDecoders 17 = .ok (.ifnull 6, 3) := by decide +kernel
theorem dCK_installedDecoders_20 : decode cCK_installedDecoders 20 = .ok (.iinc 1 1, 3) := by decide +kernel
theorem dCK_installedDecoders_23 : decode cCK_installedDecoders 23 = .ok (.iinc 2 1, 3) := by decide +kernel
theorem dCK_installedDecoders_26 : decode cCK_installedDecoders 26 = .ok (.goto (-22), 3) := by decide +kernel
theorem dCK_installedDecoders_29 : decode cCK_installedDecoders 29 = .ok (.iload_n 1, 1) := by decide +kernel
theorem dCK_installedDecoders_30 : decode cCK_installedDecoders 30 = .ok (.ireturn, 1) := by decide +kernel
theorem dCK_subscribersOfAll_0 : decode cCK_subscribersOfAll 0 = .ok (.iconst 0, 1) := by decide +kernel
theorem dCK_subscribersOfAll_1 : decode cCK_subscribersOfAll 1 = .ok (.istore_n 1, 1) := by decide +kernel
theorem dCK_subscribersOfAll_2 : decode cCK_subscribersOfAll 2 = .ok (.iconst 0, 1) := by decide +kernel
theorem dCK_subscribersOfAll_3 : decode cCK_subscribersOfAll 3 = .ok (.istore_n 2, 1) := by decide +kernel
theorem dCK_subscribersOfAll_4 : decode cCK_subscribersOfAll 4 = .ok (.iload_n 2, 1) := by decide +kernel
theorem dCK_subscribersOfAll_5 : decode cCK_subscribersOfAll 5 = .ok (.iconst 4, 1) := by decide +kernel
theorem dCK_subscribersOfAll_6 : decode cCK_subscribersOfAll 6 = .ok (.if_icmp .ge 41, 3) := by decide +kernel
theorem dCK_subscribersOfAll_9 : decode cCK_subscribersOfAll 9 = .ok (.iconst 0, 1) := by decide +kernel
theorem dCK_subscribersOfAll_10 : decode cCK_subscribersOfAll 10 = .ok (.istore_n 3, 1) := by decide +kernel
theorem dCK_subscribersOfAll_11 : decode cCK_subscribersOfAll 11 = .ok (.iload_n 3, 1) := by decide +kernel
theorem dCK_subscribersOfAll_12 : decode cCK_subscribersOfAll 12 = .ok (.sipush 256, 3) := by decide +kernel
theorem dCK_subscribersOfAll_15 : decode cCK_subscribersOfAll 15 = .ok (.if_icmp .ge 26, 3) := by decide +kernel
theorem dCK_subscribersOfAll_18 : decode cCK_subscribersOfAll 18 = .ok (.aload_n 0, 1) := by decide +kernel
theorem dCK_subscribersOfAll_19 : decode cCK_subscribersOfAll 19 = .ok (.getfield 46, 3) := by decide +kernel
theorem dCK_subscribersOfAll_22 : decode cCK_subscribersOfAll 22 = .ok (.iload_n 2, 1) := by decide +kernel
theorem dCK_subscribersOfAll_23 : decode cCK_subscribersOfAll 23 = .ok (.aaload, 1) := by decide +kernel
theorem dCK_subscribersOfAll_24 : decode cCK_subscribersOfAll 24 = .ok (.getfield 89, 3) := by decide +kernel
theorem dCK_subscribersOfAll_27 : decode cCK_subscribersOfAll 27 = .ok (.iload_n 3, 1) := by decide +kernel
theorem dCK_subscribersOfAll_28 : decode cCK_subscribersOfAll 28 = .ok (.baload, 1) := by decide +kernel
theorem dCK_subscribersOfAll_29 : decode cCK_subscribersOfAll 29 = .ok (.ifCond .eq 6, 3) := by decide +kernel
theorem dCK_subscribersOfAll_32 : decode cCK_subscribersOfAll 32 = .ok (.iinc 1 1, 3) := by decide +kernel
theorem dCK_subscribersOfAll_35 : decode cCK_subscribersOfAll 35 = .ok (.iinc 3 1, 3) := by decide +kernel
theorem dCK_subscribersOfAll_38 : decode cCK_subscribersOfAll 38 = .ok (.goto (-27), 3) := by decide +kernel
theorem dCK_subscribersOfAll_41 : decode cCK_subscribersOfAll 41 = .ok (.iinc 2 1, 3) := by decide +kernel
theorem dCK_subscribersOfAll_44 : decode cCK_subscribersOfAll 44 = .ok (.goto (-40), 3) := by decide +kernel
theorem dCK_subscribersOfAll_47 : decode cCK_subscribersOfAll 47 = .ok (.iload_n 1, 1) := by decide +kernel
theorem dCK_subscribersOfAll_48 : decode cCK_subscribersOfAll 48 = .ok (.ireturn, 1) := by decide +kernel
section FLD
variable {p : Program} {l : Launch} {e : Env} {R : Room} {s : State} {m : MethodId} {args : Array Value} {below : List Frame} {meth : Method} {c : Code} {H : Heap} {locs : List Loc} {cells slots : Nat} {Q : State → Prop}
variable {cc : ByteArray} {pc : Nat} {ls : Array Slot} {rest : List Value} {G : gG} {A : Nat → Prop} {ws : va_W} {a : Nat} {fs : List Value} {v : Value}
theorem kfCK_227 : (Cond.fieldLink "CoverKeys" 227 "CoverKeys$Cipher" "high" "J") ∈ ckT := ck_m1 (List.mem_of_getElem? (i := 36) rfl) rfl
theorem gfCK_227 (hx : p.tables.exec = Jvm.exec) (hb : c.code = cc) (hts : ∀ w ∈ ckT, w.before args s = true) (hown : s.vm.findClass "CoverKeys" = some m.cls) (hG : gk G A s s.heap) (hP : va_P G.1 vwCl ws H) (q0 : Nat) (he : ws[q0]? = some (oC a 1 fs)) (hv : fs[1]? = some v) (hdg : decode cc pc = .ok (.getfield 227, 3))
    (kk : W p l e R s m args below meth c H locs cells slots Q (F0 m (pc + 3) ls (v :: rest))) : W p l e R s m args below meth c H locs cells slots Q (F0 m pc ls (.ref a :: rest)) :=
  va_get (T := TCi) (N := 3) hx hb hts inCi hown hG.1 hP q0 he rfl 1 (by decide) (hts _ kfCK_227) (fun _ h => h) hv hdg kk
theorem pfCK_227 (hx : p.tables.exec = Jvm.exec) (hb : c.code = cc) (hts : ∀ w ∈ ckT, w.before args s = true) (hown : s.vm.findClass "CoverKeys" = some m.cls) (hG : gk G A s s.heap) (hP : va_P G.1 vwCl ws H) (hD : va_D A ws) (hS : va_S A s.heap H locs) (q0 : Nat) (he : ws[q0]? = some (oC a 1 fs)) (hn : narrow (.long) v = v) (hfit : fits (.long) v = true) (hl : 1 < fs.length) (hdg : decode cc pc = .ok (.putfield 227, 3))
    (kk : ∀ (H1 : Heap) (locs1 : List Loc), va_P G.1 vwCl (ws.set q0 (oC a 1 (fs.set 1 v))) H1 → va_D A (ws.set q0 (oC a 1 (fs.set 1 v))) → va_S A s.heap H1 locs1 → W p l e R s m args below meth c H1 locs1 cells slots Q (F0 m (pc + 3) ls rest)) : W p l e R s m args below meth c H locs cells slots Q (F0 m pc ls (v :: .ref a :: rest)) :=
  va_put (T := TCi) (N := 3) hx hb hts inCi tyCi tyCi_ok nmCi hown hG.1 hP hD hS q0 he rfl 1 (by decide) (hts _ kfCK_227) (fun _ h => h) rfl (tyCi_ok 1 (by decide)) hn hfit hl hdg kk
theorem kfCK_228 : (Cond.fieldLink "CoverKeys" 228 "CoverKeys$Cipher" "low" "J") ∈ ckT := ck_m1 (List.mem_of_getElem? (i := 40) rfl) rfl
theorem gfCK_228 (hx : p.tables.exec = Jvm.exec) (hb : c.code = cc) (hts : ∀ w ∈ ckT, w.before args s = true) (hown : s.vm.findClass "CoverKeys" = some m.cls) (hG : gk G A s s.heap) (hP : va_P G.1 vwCl ws H) (q0 : Nat) (he : ws[q0]? = some (oC a 1 fs)) (hv : fs[2]? = some v) (hdg : decode cc pc = .ok (.getfield 228, 3))
    (kk : W p l e R s m args below meth c H locs cells slots Q (F0 m (pc + 3) ls (v :: rest))) : W p l e R s m args below meth c H locs cells slots Q (F0 m pc ls (.ref a :: rest)) :=
  va_get (T := TCi) (N := 3) hx hb hts inCi hown hG.1 hP q0 he rfl 2 (by decide) (hts _ kfCK_228) (fun _ h => h) hv hdg kk
theorem pfCK_228 (hx : p.tables.exec = Jvm.exec) (hb : c.code = cc) (hts : ∀ w ∈ ckT, w.before args s = true) (hown : s.vm.findClass "CoverKeys" = some m.cls) (hG : gk G A s s.heap) (hP : va_P G.1 vwCl ws H) (hD : va_D A ws) (hS : va_S A s.heap H locs) (q0 : Nat) (he : ws[q0]? = some (oC a 1 fs)) (hn : narrow (.long) v = v) (hfit : fits (.long) v = true) (hl : 2 < fs.length) (hdg : decode cc pc = .ok (.putfield 228, 3))
    (kk : ∀ (H1 : Heap) (locs1 : List Loc), va_P G.1 vwCl (ws.set q0 (oC a 1 (fs.set 2 v))) H1 → va_D A (ws.set q0 (oC a 1 (fs.set 2 v))) → va_S A s.heap H1 locs1 → W p l e R s m args below meth c H1 locs1 cells slots Q (F0 m (pc + 3) ls rest)) : W p l e R s m args below meth c H locs cells slots Q (F0 m pc ls (v :: .ref a :: rest)) :=
  va_put (T := TCi) (N := 3) hx hb hts inCi tyCi tyCi_ok nmCi hown hG.1 hP hD hS q0 he rfl 2 (by decide) (hts _ kfCK_228) (fun _ h => h) rfl (tyCi_ok 2 (by decide)) hn hfit hl hdg kk
theorem kfCK_240 : (Cond.fieldLink "CoverKeys" 240 "CoverKeys$Tree" "depth" "I") ∈ ckT := ck_m1 (List.mem_of_getElem? (i := 56) rfl) rfl
theorem gfCK_240 (hx : p.tables.exec = Jvm.exec) (hb : c.code = cc) (hts : ∀ w ∈ ckT, w.before args s = true) (hown : s.vm.findClass "CoverKeys" = some m.cls) (hG : gk G A s s.heap) (hP : va_P G.1 vwCl ws H) (q0 : Nat) (he : ws[q0]? = some (oC a 6 fs)) (hv : fs[0]? = some v) (hdg : decode cc pc = .ok (.getfield 240, 3))
    (kk : W p l e R s m args below meth c H locs cells slots Q (F0 m (pc + 3) ls (v :: rest))) : W p l e R s m args below meth c H locs cells slots Q (F0 m pc ls (.ref a :: rest)) :=
  va_get (T := TTr) (N := 3) hx hb hts inTr hown hG.1 hP q0 he rfl 0 (by decide) (hts _ kfCK_240) (fun _ h => h) hv hdg kk
theorem pfCK_240 (hx : p.tables.exec = Jvm.exec) (hb : c.code = cc) (hts : ∀ w ∈ ckT, w.before args s = true) (hown : s.vm.findClass "CoverKeys" = some m.cls) (hG : gk G A s s.heap) (hP : va_P G.1 vwCl ws H) (hD : va_D A ws) (hS : va_S A s.heap H locs) (q0 : Nat) (he : ws[q0]? = some (oC a 6 fs)) (hn : narrow (.int) v = v) (hfit : fits (.int) v = true) (hl : 0 < fs.length) (hdg : decode cc pc = .ok (.putfield 240, 3))
    (kk : ∀ (H1 : Heap) (locs1 : List Loc), va_P G.1 vwCl (ws.set q0 (oC a 6 (fs.set 0 v))) H1 → va_D A (ws.set q0 (oC a 6 (fs.set 0 v))) → va_S A s.heap H1 locs1 → W p l e R s m args below meth c H1 locs1 cells slots Q (F0 m (pc + 3) ls rest)) : W p l e R s m args below meth c H locs cells slots Q (F0 m pc ls (v :: .ref a :: rest)) :=
  va_put (T := TTr) (N := 3) hx hb hts inTr tyTr tyTr_ok nmTr hown hG.1 hP hD hS q0 he rfl 0 (by decide) (hts _ kfCK_240) (fun _ h => h) rfl (tyTr_ok 0 (by decide)) hn hfit hl hdg kk
theorem kfCK_266 : (Cond.fieldLink "CoverKeys" 266 "CoverKeys$Envelope" "check" "J") ∈ ckT := ck_m1 (List.mem_of_getElem? (i := 84) rfl) rfl
theorem gfCK_266 (hx : p.tables.exec = Jvm.exec) (hb : c.code = cc) (hts : ∀ w ∈ ckT, w.before args s = true) (hown : s.vm.findClass "CoverKeys" = some m.cls) (hG : gk G A s s.heap) (hP : va_P G.1 vwCl ws H) (q0 : Nat) (he : ws[q0]? = some (oC a 4 fs)) (hv : fs[0]? = some v) (hdg : decode cc pc = .ok (.getfield 266, 3))
    (kk : W p l e R s m args below meth c H locs cells slots Q (F0 m (pc + 3) ls (v :: rest))) : W p l e R s m args below meth c H locs cells slots Q (F0 m pc ls (.ref a :: rest)) :=
  va_get (T := TEn) (N := 3) hx hb hts inEn hown hG.1 hP q0 he rfl 0 (by decide) (hts _ kfCK_266) (fun _ h => h) hv hdg kk
theorem pfCK_266 (hx : p.tables.exec = Jvm.exec) (hb : c.code = cc) (hts : ∀ w ∈ ckT, w.before args s = true) (hown : s.vm.findClass "CoverKeys" = some m.cls) (hG : gk G A s s.heap) (hP : va_P G.1 vwCl ws H) (hD : va_D A ws) (hS : va_S A s.heap H locs) (q0 : Nat) (he : ws[q0]? = some (oC a 4 fs)) (hn : narrow (.long) v = v) (hfit : fits (.long) v = true) (hl : 0 < fs.length) (hdg : decode cc pc = .ok (.putfield 266, 3))
    (kk : ∀ (H1 : Heap) (locs1 : List Loc), va_P G.1 vwCl (ws.set q0 (oC a 4 (fs.set 0 v))) H1 → va_D A (ws.set q0 (oC a 4 (fs.set 0 v))) → va_S A s.heap H1 locs1 → W p l e R s m args below meth c H1 locs1 cells slots Q (F0 m (pc + 3) ls rest)) : W p l e R s m args below meth c H locs cells slots Q (F0 m pc ls (v :: .ref a :: rest)) :=
  va_put (T := TEn) (N := 3) hx hb hts inEn tyEn tyEn_ok nmEn hown hG.1 hP hD hS q0 he rfl 0 (by decide) (hts _ kfCK_266) (fun _ h => h) rfl (tyEn_ok 0 (by decide)) hn hfit hl hdg kk
theorem kfCK_158 : (Cond.fieldLink "CoverKeys" 158 "CoverKeys$Envelope" "high" "J") ∈ ckT := ck_m1 (List.mem_of_getElem? (i := 86) rfl) rfl
theorem gfCK_158 (hx : p.tables.exec = Jvm.exec) (hb : c.code = cc) (hts : ∀ w ∈ ckT, w.before args s = true) (hown : s.vm.findClass "CoverKeys" = some m.cls) (hG : gk G A s s.heap) (hP : va_P G.1 vwCl ws H) (q0 : Nat) (he : ws[q0]? = some (oC a 4 fs)) (hv : fs[1]? = some v) (hdg : decode cc pc = .ok (.getfield 158, 3))
    (kk : W p l e R s m args below meth c H locs cells slots Q (F0 m (pc + 3) ls (v :: rest))) : W p l e R s m args below meth c H locs cells slots Q (F0 m pc ls (.ref a :: rest)) :=
  va_get (T := TEn) (N := 3) hx hb hts inEn hown hG.1 hP q0 he rfl 1 (by decide) (hts _ kfCK_158) (fun _ h => h) hv hdg kk
theorem pfCK_158 (hx : p.tables.exec = Jvm.exec) (hb : c.code = cc) (hts : ∀ w ∈ ckT, w.before args s = true) (hown : s.vm.findClass "CoverKeys" = some m.cls) (hG : gk G A s s.heap) (hP : va_P G.1 vwCl ws H) (hD : va_D A ws) (hS : va_S A s.heap H locs) (q0 : Nat) (he : ws[q0]? = some (oC a 4 fs)) (hn : narrow (.long) v = v) (hfit : fits (.long) v = true) (hl : 1 < fs.length) (hdg : decode cc pc = .ok (.putfield 158, 3))
    (kk : ∀ (H1 : Heap) (locs1 : List Loc), va_P G.1 vwCl (ws.set q0 (oC a 4 (fs.set 1 v))) H1 → va_D A (ws.set q0 (oC a 4 (fs.set 1 v))) → va_S A s.heap H1 locs1 → W p l e R s m args below meth c H1 locs1 cells slots Q (F0 m (pc + 3) ls rest)) : W p l e R s m args below meth c H locs cells slots Q (F0 m pc ls (v :: .ref a :: rest)) :=
  va_put (T := TEn) (N := 3) hx hb hts inEn tyEn tyEn_ok nmEn hown hG.1 hP hD hS q0 he rfl 1 (by decide) (hts _ kfCK_158) (fun _ h => h) rfl (tyEn_ok 1 (by decide)) hn hfit hl hdg kk
theorem kfCK_162 : (Cond.fieldLink "CoverKeys" 162 "CoverKeys$Envelope" "low" "J") ∈ ckT := ck_m1 (List.mem_of_getElem? (i := 88) rfl) rfl
theorem gfCK_162 (hx : p.tables.exec = Jvm.exec) (hb : c.code = cc) (hts : ∀ w ∈ ckT, w.before args s = true) (hown : s.vm.findClass "CoverKeys" = some m.cls) (hG : gk G A s s.heap) (hP : va_P G.1 vwCl ws H) (q0 : Nat) (he : ws[q0]? = some (oC a 4 fs)) (hv : fs[2]? = some v) (hdg : decode cc pc = .ok (.getfield 162, 3))
    (kk : W p l e R s m args below meth c H locs cells slots Q (F0 m (pc + 3) ls (v :: rest))) : W p l e R s m args below meth c H locs cells slots Q (F0 m pc ls (.ref a :: rest)) :=
  va_get (T := TEn) (N := 3) hx hb hts inEn hown hG.1 hP q0 he rfl 2 (by decide) (hts _ kfCK_162) (fun _ h => h) hv hdg kk
theorem pfCK_162 (hx : p.tables.exec = Jvm.exec) (hb : c.code = cc) (hts : ∀ w ∈ ckT, w.before args s = true) (hown : s.vm.findClass "CoverKeys" = some m.cls) (hG : gk G A s s.heap) (hP : va_P G.1 vwCl ws H) (hD : va_D A ws) (hS : va_S A s.heap H locs) (q0 : Nat) (he : ws[q0]? = some (oC a 4 fs)) (hn : narrow (.long) v = v) (hfit : fits (.long) v = true) (hl : 2 < fs.length) (hdg : decode cc pc = .ok (.putfield 162, 3))
    (kk : ∀ (H1 : Heap) (locs1 : List Loc), va_P G.1 vwCl (ws.set q0 (oC a 4 (fs.set 2 v))) H1 → va_D A (ws.set q0 (oC a 4 (fs.set 2 v))) → va_S A s.heap H1 locs1 → W p l e R s m args below meth c H1 locs1 cells slots Q (F0 m (pc + 3) ls rest)) : W p l e R s m args below meth c H locs cells slots Q (F0 m pc ls (v :: .ref a :: rest)) :=
  va_put (T := TEn) (N := 3) hx hb hts inEn tyEn tyEn_ok nmEn hown hG.1 hP hD hS q0 he rfl 2 (by decide) (hts _ kfCK_162) (fun _ h => h) rfl (tyEn_ok 2 (by decide)) hn hfit hl hdg kk
theorem kfCK_141 : (Cond.fieldLink "CoverKeys" 141 "CoverKeys$Packet" "bytes" "[I") ∈ ckT := ck_m1 (List.mem_of_getElem? (i := 103) rfl) rfl
theorem gfCK_141 (hx : p.tables.exec = Jvm.exec) (hb : c.code = cc) (hts : ∀ w ∈ ckT, w.before args s = true) (hown : s.vm.findClass "CoverKeys" = some m.cls) (hG : gk G A s s.heap) (hP : va_P G.1 vwCl ws H) (q0 : Nat) (he : ws[q0]? = some (oC a 5 fs)) (hv : fs[0]? = some v) (hdg : decode cc pc = .ok (.getfield 141, 3))
    (kk : W p l e R s m args below meth c H locs cells slots Q (F0 m (pc + 3) ls (v :: rest))) : W p l e R s m args below meth c H locs cells slots Q (F0 m pc ls (.ref a :: rest)) :=
  va_get (T := TPa) (N := 2) hx hb hts inPa hown hG.1 hP q0 he rfl 0 (by decide) (hts _ kfCK_141) (fun _ h => h) hv hdg kk
theorem kfCK_135 : (Cond.fieldLink "CoverKeys" 135 "CoverKeys$Packet" "length" "I") ∈ ckT := ck_m1 (List.mem_of_getElem? (i := 105) rfl) rfl
theorem gfCK_135 (hx : p.tables.exec = Jvm.exec) (hb : c.code = cc) (hts : ∀ w ∈ ckT, w.before args s = true) (hown : s.vm.findClass "CoverKeys" = some m.cls) (hG : gk G A s s.heap) (hP : va_P G.1 vwCl ws H) (q0 : Nat) (he : ws[q0]? = some (oC a 5 fs)) (hv : fs[1]? = some v) (hdg : decode cc pc = .ok (.getfield 135, 3))
    (kk : W p l e R s m args below meth c H locs cells slots Q (F0 m (pc + 3) ls (v :: rest))) : W p l e R s m args below meth c H locs cells slots Q (F0 m pc ls (.ref a :: rest)) :=
  va_get (T := TPa) (N := 2) hx hb hts inPa hown hG.1 hP q0 he rfl 1 (by decide) (hts _ kfCK_135) (fun _ h => h) hv hdg kk
theorem pfCK_135 (hx : p.tables.exec = Jvm.exec) (hb : c.code = cc) (hts : ∀ w ∈ ckT, w.before args s = true) (hown : s.vm.findClass "CoverKeys" = some m.cls) (hG : gk G A s s.heap) (hP : va_P G.1 vwCl ws H) (hD : va_D A ws) (hS : va_S A s.heap H locs) (q0 : Nat) (he : ws[q0]? = some (oC a 5 fs)) (hn : narrow (.int) v = v) (hfit : fits (.int) v = true) (hl : 1 < fs.length) (hdg : decode cc pc = .ok (.putfield 135, 3))
    (kk : ∀ (H1 : Heap) (locs1 : List Loc), va_P G.1 vwCl (ws.set q0 (oC a 5 (fs.set 1 v))) H1 → va_D A (ws.set q0 (oC a 5 (fs.set 1 v))) → va_S A s.heap H1 locs1 → W p l e R s m args below meth c H1 locs1 cells slots Q (F0 m (pc + 3) ls rest)) : W p l e R s m args below meth c H locs cells slots Q (F0 m pc ls (v :: .ref a :: rest)) :=
  va_put (T := TPa) (N := 2) hx hb hts inPa tyPa tyPa_ok nmPa hown hG.1 hP hD hS q0 he rfl 1 (by decide) (hts _ kfCK_135) (fun _ h => h) rfl (tyPa_ok 1 (by decide)) hn hfit hl hdg kk
theorem kfCK_89 : (Cond.fieldLink "CoverKeys" 89 "CoverKeys$Channel" "subscribers" "[Z") ∈ ckT := ck_m1 (List.mem_of_getElem? (i := 122) rfl) rfl
theorem gfCK_89 (hx : p.tables.exec = Jvm.exec) (hb : c.code = cc) (hts : ∀ w ∈ ckT, w.before args s = true) (hown : s.vm.findClass "CoverKeys" = some m.cls) (hG : gk G A s s.heap) (hP : va_P G.1 vwCl ws H) (q0 : Nat) (he : ws[q0]? = some (oC a 0 fs)) (hv : fs[0]? = some v) (hdg : decode cc pc = .ok (.getfield 89, 3))
    (kk : W p l e R s m args below meth c H locs cells slots Q (F0 m (pc + 3) ls (v :: rest))) : W p l e R s m args below meth c H locs cells slots Q (F0 m pc ls (.ref a :: rest)) :=
  va_get (T := TCh) (N := 7) hx hb hts inCh hown hG.1 hP q0 he rfl 0 (by decide) (hts _ kfCK_89) (fun _ h => h) hv hdg kk
theorem kfCK_209 : (Cond.fieldLink "CoverKeys" 209 "CoverKeys$Channel" "vs" "[I") ∈ ckT := ck_m1 (List.mem_of_getElem? (i := 124) rfl) rfl
theorem gfCK_209 (hx : p.tables.exec = Jvm.exec) (hb : c.code = cc) (hts : ∀ w ∈ ckT, w.before args s = true) (hown : s.vm.findClass "CoverKeys" = some m.cls) (hG : gk G A s s.heap) (hP : va_P G.1 vwCl ws H) (q0 : Nat) (he : ws[q0]? = some (oC a 0 fs)) (hv : fs[1]? = some v) (hdg : decode cc pc = .ok (.getfield 209, 3))
    (kk : W p l e R s m args below meth c H locs cells slots Q (F0 m (pc + 3) ls (v :: rest))) : W p l e R s m args below meth c H locs cells slots Q (F0 m pc ls (.ref a :: rest)) :=
  va_get (T := TCh) (N := 7) hx hb hts inCh hown hG.1 hP q0 he rfl 1 (by decide) (hts _ kfCK_209) (fun _ h => h) hv hdg kk
theorem kfCK_206 : (Cond.fieldLink "CoverKeys" 206 "CoverKeys$Channel" "ws" "[I") ∈ ckT := ck_m1 (List.mem_of_getElem? (i := 126) rfl) rfl
theorem gfCK_206 (hx : p.tables.exec = Jvm.exec) (hb : c.code = cc) (hts : ∀ w ∈ ckT, w.before args s = true) (hown : s.vm.findClass "CoverKeys" = some m.cls) (hG : gk G A s s.heap) (hP : va_P G.1 vwCl ws H) (q0 : Nat) (he : ws[q0]? = some (oC a 0 fs)) (hv : fs[2]? = some v) (hdg : decode cc pc = .ok (.getfield 206, 3))
    (kk : W p l e R s m args below meth c H locs cells slots Q (F0 m (pc + 3) ls (v :: rest))) : W p l e R s m args below meth c H locs cells slots Q (F0 m pc ls (.ref a :: rest)) :=
  va_get (T := TCh) (N := 7) hx hb hts inCh hown hG.1 hP q0 he rfl 2 (by decide) (hts _ kfCK_206) (fun _ h => h) hv hdg kk
theorem kfCK_93 : (Cond.fieldLink "CoverKeys" 93 "CoverKeys$Channel" "periods" "I") ∈ ckT := ck_m1 (List.mem_of_getElem? (i := 128) rfl) rfl
theorem gfCK_93 (hx : p.tables.exec = Jvm.exec) (hb : c.code = cc) (hts : ∀ w ∈ ckT, w.before args s = true) (hown : s.vm.findClass "CoverKeys" = some m.cls) (hG : gk G A s s.heap) (hP : va_P G.1 vwCl ws H) (q0 : Nat) (he : ws[q0]? = some (oC a 0 fs)) (hv : fs[3]? = some v) (hdg : decode cc pc = .ok (.getfield 93, 3))
    (kk : W p l e R s m args below meth c H locs cells slots Q (F0 m (pc + 3) ls (v :: rest))) : W p l e R s m args below meth c H locs cells slots Q (F0 m pc ls (.ref a :: rest)) :=
  va_get (T := TCh) (N := 7) hx hb hts inCh hown hG.1 hP q0 he rfl 3 (by decide) (hts _ kfCK_93) (fun _ h => h) hv hdg kk
theorem pfCK_93 (hx : p.tables.exec = Jvm.exec) (hb : c.code = cc) (hts : ∀ w ∈ ckT, w.before args s = true) (hown : s.vm.findClass "CoverKeys" = some m.cls) (hG : gk G A s s.heap) (hP : va_P G.1 vwCl ws H) (hD : va_D A ws) (hS : va_S A s.heap H locs) (q0 : Nat) (he : ws[q0]? = some (oC a 0 fs)) (hn : narrow (.int) v = v) (hfit : fits (.int) v = true) (hl : 3 < fs.length) (hdg : decode cc pc = .ok (.putfield 93, 3))
    (kk : ∀ (H1 : Heap) (locs1 : List Loc), va_P G.1 vwCl (ws.set q0 (oC a 0 (fs.set 3 v))) H1 → va_D A (ws.set q0 (oC a 0 (fs.set 3 v))) → va_S A s.heap H1 locs1 → W p l e R s m args below meth c H1 locs1 cells slots Q (F0 m (pc + 3) ls rest)) : W p l e R s m args below meth c H locs cells slots Q (F0 m pc ls (v :: .ref a :: rest)) :=
  va_put (T := TCh) (N := 7) hx hb hts inCh tyCh tyCh_ok nmCh hown hG.1 hP hD hS q0 he rfl 3 (by decide) (hts _ kfCK_93) (fun _ h => h) rfl (tyCh_ok 3 (by decide)) hn hfit hl hdg kk
theorem kfCK_110 : (Cond.fieldLink "CoverKeys" 110 "CoverKeys$Channel" "subsets" "I") ∈ ckT := ck_m1 (List.mem_of_getElem? (i := 131) rfl) rfl
theorem gfCK_110 (hx : p.tables.exec = Jvm.exec) (hb : c.code = cc) (hts : ∀ w ∈ ckT, w.before args s = true) (hown : s.vm.findClass "CoverKeys" = some m.cls) (hG : gk G A s s.heap) (hP : va_P G.1 vwCl ws H) (q0 : Nat) (he : ws[q0]? = some (oC a 0 fs)) (hv : fs[4]? = some v) (hdg : decode cc pc = .ok (.getfield 110, 3))
    (kk : W p l e R s m args below meth c H locs cells slots Q (F0 m (pc + 3) ls (v :: rest))) : W p l e R s m args below meth c H locs cells slots Q (F0 m pc ls (.ref a :: rest)) :=
  va_get (T := TCh) (N := 7) hx hb hts inCh hown hG.1 hP q0 he rfl 4 (by decide) (hts _ kfCK_110) (fun _ h => h) hv hdg kk
theorem pfCK_110 (hx : p.tables.exec = Jvm.exec) (hb : c.code = cc) (hts : ∀ w ∈ ckT, w.before args s = true) (hown : s.vm.findClass "CoverKeys" = some m.cls) (hG : gk G A s s.heap) (hP : va_P G.1 vwCl ws H) (hD : va_D A ws) (hS : va_S A s.heap H locs) (q0 : Nat) (he : ws[q0]? = some (oC a 0 fs)) (hn : narrow (.int) v = v) (hfit : fits (.int) v = true) (hl : 4 < fs.length) (hdg : decode cc pc = .ok (.putfield 110, 3))
    (kk : ∀ (H1 : Heap) (locs1 : List Loc), va_P G.1 vwCl (ws.set q0 (oC a 0 (fs.set 4 v))) H1 → va_D A (ws.set q0 (oC a 0 (fs.set 4 v))) → va_S A s.heap H1 locs1 → W p l e R s m args below meth c H1 locs1 cells slots Q (F0 m (pc + 3) ls rest)) : W p l e R s m args below meth c H locs cells slots Q (F0 m pc ls (v :: .ref a :: rest)) :=
  va_put (T := TCh) (N := 7) hx hb hts inCh tyCh tyCh_ok nmCh hown hG.1 hP hD hS q0 he rfl 4 (by decide) (hts _ kfCK_110) (fun _ h => h) rfl (tyCh_ok 4 (by decide)) hn hfit hl hdg kk
theorem kfCK_171 : (Cond.fieldLink "CoverKeys" 171 "CoverKeys$Channel" "high" "J") ∈ ckT := ck_m1 (List.mem_of_getElem? (i := 133) rfl) rfl
theorem gfCK_171 (hx : p.tables.exec = Jvm.exec) (hb : c.code = cc) (hts : ∀ w ∈ ckT, w.before args s = true) (hown : s.vm.findClass "CoverKeys" = some m.cls) (hG : gk G A s s.heap) (hP : va_P G.1 vwCl ws H) (q0 : Nat) (he : ws[q0]? = some (oC a 0 fs)) (hv : fs[5]? = some v) (hdg : decode cc pc = .ok (.getfield 171, 3))
    (kk : W p l e R s m args below meth c H locs cells slots Q (F0 m (pc + 3) ls (v :: rest))) : W p l e R s m args below meth c H locs cells slots Q (F0 m pc ls (.ref a :: rest)) :=
  va_get (T := TCh) (N := 7) hx hb hts inCh hown hG.1 hP q0 he rfl 5 (by decide) (hts _ kfCK_171) (fun _ h => h) hv hdg kk
theorem pfCK_171 (hx : p.tables.exec = Jvm.exec) (hb : c.code = cc) (hts : ∀ w ∈ ckT, w.before args s = true) (hown : s.vm.findClass "CoverKeys" = some m.cls) (hG : gk G A s s.heap) (hP : va_P G.1 vwCl ws H) (hD : va_D A ws) (hS : va_S A s.heap H locs) (q0 : Nat) (he : ws[q0]? = some (oC a 0 fs)) (hn : narrow (.long) v = v) (hfit : fits (.long) v = true) (hl : 5 < fs.length) (hdg : decode cc pc = .ok (.putfield 171, 3))
    (kk : ∀ (H1 : Heap) (locs1 : List Loc), va_P G.1 vwCl (ws.set q0 (oC a 0 (fs.set 5 v))) H1 → va_D A (ws.set q0 (oC a 0 (fs.set 5 v))) → va_S A s.heap H1 locs1 → W p l e R s m args below meth c H1 locs1 cells slots Q (F0 m (pc + 3) ls rest)) : W p l e R s m args below meth c H locs cells slots Q (F0 m pc ls (v :: .ref a :: rest)) :=
  va_put (T := TCh) (N := 7) hx hb hts inCh tyCh tyCh_ok nmCh hown hG.1 hP hD hS q0 he rfl 5 (by decide) (hts _ kfCK_171) (fun _ h => h) rfl (tyCh_ok 5 (by decide)) hn hfit hl hdg kk
theorem kfCK_172 : (Cond.fieldLink "CoverKeys" 172 "CoverKeys$Channel" "low" "J") ∈ ckT := ck_m1 (List.mem_of_getElem? (i := 135) rfl) rfl
theorem gfCK_172 (hx : p.tables.exec = Jvm.exec) (hb : c.code = cc) (hts : ∀ w ∈ ckT, w.before args s = true) (hown : s.vm.findClass "CoverKeys" = some m.cls) (hG : gk G A s s.heap) (hP : va_P G.1 vwCl ws H) (q0 : Nat) (he : ws[q0]? = some (oC a 0 fs)) (hv : fs[6]? = some v) (hdg : decode cc pc = .ok (.getfield 172, 3))
    (kk : W p l e R s m args below meth c H locs cells slots Q (F0 m (pc + 3) ls (v :: rest))) : W p l e R s m args below meth c H locs cells slots Q (F0 m pc ls (.ref a :: rest)) :=
  va_get (T := TCh) (N := 7) hx hb hts inCh hown hG.1 hP q0 he rfl 6 (by decide) (hts _ kfCK_172) (fun _ h => h) hv hdg kk
theorem pfCK_172 (hx : p.tables.exec = Jvm.exec) (hb : c.code = cc) (hts : ∀ w ∈ ckT, w.before args s = true) (hown : s.vm.findClass "CoverKeys" = some m.cls) (hG : gk G A s s.heap) (hP : va_P G.1 vwCl ws H) (hD : va_D A ws) (hS : va_S A s.heap H locs) (q0 : Nat) (he : ws[q0]? = some (oC a 0 fs)) (hn : narrow (.long) v = v) (hfit : fits (.long) v = true) (hl : 6 < fs.length) (hdg : decode cc pc = .ok (.putfield 172, 3))
    (kk : ∀ (H1 : Heap) (locs1 : List Loc), va_P G.1 vwCl (ws.set q0 (oC a 0 (fs.set 6 v))) H1 → va_D A (ws.set q0 (oC a 0 (fs.set 6 v))) → va_S A s.heap H1 locs1 → W p l e R s m args below meth c H1 locs1 cells slots Q (F0 m (pc + 3) ls rest)) : W p l e R s m args below meth c H locs cells slots Q (F0 m pc ls (v :: .ref a :: rest)) :=
  va_put (T := TCh) (N := 7) hx hb hts inCh tyCh tyCh_ok nmCh hown hG.1 hP hD hS q0 he rfl 6 (by decide) (hts _ kfCK_172) (fun _ h => h) rfl (tyCh_ok 6 (by decide)) hn hfit hl hdg kk
theorem kfCK_12 : (Cond.fieldLink "CoverKeys" 12 "CoverKeys" "cipher" "LCoverKeys$Cipher;") ∈ ckT := ck_m1 (List.mem_of_getElem? (i := 155) rfl) rfl
theorem gfCK_12 (hx : p.tables.exec = Jvm.exec) (hb : c.code = cc) (hts : ∀ w ∈ ckT, w.before args s = true) (hown : s.vm.findClass "CoverKeys" = some m.cls) (hG : gk G A s s.heap) (hP : va_P G.1 vwCl ws H) (q0 : Nat) (he : ws[q0]? = some (oC a 7 fs)) (hv : fs[0]? = some v) (hdg : decode cc pc = .ok (.getfield 12, 3))
    (kk : W p l e R s m args below meth c H locs cells slots Q (F0 m (pc + 3) ls (v :: rest))) : W p l e R s m args below meth c H locs cells slots Q (F0 m pc ls (.ref a :: rest)) :=
  va_get (T := TCK) (N := 9) hx hb hts inCK hown hG.1 hP q0 he rfl 0 (by decide) (hts _ kfCK_12) (fun _ h => h) hv hdg kk
theorem kfCK_19 : (Cond.fieldLink "CoverKeys" 19 "CoverKeys" "tree" "LCoverKeys$Tree;") ∈ ckT := ck_m1 (List.mem_of_getElem? (i := 156) rfl) rfl
theorem gfCK_19 (hx : p.tables.exec = Jvm.exec) (hb : c.code = cc) (hts : ∀ w ∈ ckT, w.before args s = true) (hown : s.vm.findClass "CoverKeys" = some m.cls) (hG : gk G A s s.heap) (hP : va_P G.1 vwCl ws H) (q0 : Nat) (he : ws[q0]? = some (oC a 7 fs)) (hv : fs[1]? = some v) (hdg : decode cc pc = .ok (.getfield 19, 3))
    (kk : W p l e R s m args below meth c H locs cells slots Q (F0 m (pc + 3) ls (v :: rest))) : W p l e R s m args below meth c H locs cells slots Q (F0 m pc ls (.ref a :: rest)) :=
  va_get (T := TCK) (N := 9) hx hb hts inCK hown hG.1 hP q0 he rfl 1 (by decide) (hts _ kfCK_19) (fun _ h => h) hv hdg kk
theorem kfCK_26 : (Cond.fieldLink "CoverKeys" 26 "CoverKeys" "cover" "LCoverKeys$Cover;") ∈ ckT := ck_m1 (List.mem_of_getElem? (i := 157) rfl) rfl
theorem gfCK_26 (hx : p.tables.exec = Jvm.exec) (hb : c.code = cc) (hts : ∀ w ∈ ckT, w.before args s = true) (hown : s.vm.findClass "CoverKeys" = some m.cls) (hG : gk G A s s.heap) (hP : va_P G.1 vwCl ws H) (q0 : Nat) (he : ws[q0]? = some (oC a 7 fs)) (hv : fs[2]? = some v) (hdg : decode cc pc = .ok (.getfield 26, 3))
    (kk : W p l e R s m args below meth c H locs cells slots Q (F0 m (pc + 3) ls (v :: rest))) : W p l e R s m args below meth c H locs cells slots Q (F0 m pc ls (.ref a :: rest)) :=
  va_get (T := TCK) (N := 9) hx hb hts inCK hown hG.1 hP q0 he rfl 2 (by decide) (hts _ kfCK_26) (fun _ h => h) hv hdg kk
theorem kfCK_33 : (Cond.fieldLink "CoverKeys" 33 "CoverKeys" "envelope" "LCoverKeys$Envelope;") ∈ ckT := ck_m1 (List.mem_of_getElem? (i := 158) rfl) rfl
theorem gfCK_33 (hx : p.tables.exec = Jvm.exec) (hb : c.code = cc) (hts : ∀ w ∈ ckT, w.before args s = true) (hown : s.vm.findClass "CoverKeys" = some m.cls) (hG : gk G A s s.heap) (hP : va_P G.1 vwCl ws H) (q0 : Nat) (he : ws[q0]? = some (oC a 7 fs)) (hv : fs[3]? = some v) (hdg : decode cc pc = .ok (.getfield 33, 3))
    (kk : W p l e R s m args below meth c H locs cells slots Q (F0 m (pc + 3) ls (v :: rest))) : W p l e R s m args below meth c H locs cells slots Q (F0 m pc ls (.ref a :: rest)) :=
  va_get (T := TCK) (N := 9) hx hb hts inCK hown hG.1 hP q0 he rfl 3 (by decide) (hts _ kfCK_33) (fun _ h => h) hv hdg kk
theorem kfCK_40 : (Cond.fieldLink "CoverKeys" 40 "CoverKeys" "onAir" "LCoverKeys$Packet;") ∈ ckT := ck_m1 (List.mem_of_getElem? (i := 159) rfl) rfl
theorem gfCK_40 (hx : p.tables.exec = Jvm.exec) (hb : c.code = cc) (hts : ∀ w ∈ ckT, w.before args s = true) (hown : s.vm.findClass "CoverKeys" = some m.cls) (hG : gk G A s s.heap) (hP : va_P G.1 vwCl ws H) (q0 : Nat) (he : ws[q0]? = some (oC a 7 fs)) (hv : fs[4]? = some v) (hdg : decode cc pc = .ok (.getfield 40, 3))
    (kk : W p l e R s m args below meth c H locs cells slots Q (F0 m (pc + 3) ls (v :: rest))) : W p l e R s m args below meth c H locs cells slots Q (F0 m pc ls (.ref a :: rest)) :=
  va_get (T := TCK) (N := 9) hx hb hts inCK hown hG.1 hP q0 he rfl 4 (by decide) (hts _ kfCK_40) (fun _ h => h) hv hdg kk
theorem kfCK_46 : (Cond.fieldLink "CoverKeys" 46 "CoverKeys" "channels" "[LCoverKeys$Channel;") ∈ ckT := ck_m1 (List.mem_of_getElem? (i := 160) rfl) rfl
theorem gfCK_46 (hx : p.tables.exec = Jvm.exec) (hb : c.code = cc) (hts : ∀ w ∈ ckT, w.before args s = true) (hown : s.vm.findClass "CoverKeys" = some m.cls) (hG : gk G A s s.heap) (hP : va_P G.1 vwCl ws H) (q0 : Nat) (he : ws[q0]? = some (oC a 7 fs)) (hv : fs[5]? = some v) (hdg : decode cc pc = .ok (.getfield 46, 3))
    (kk : W p l e R s m args below meth c H locs cells slots Q (F0 m (pc + 3) ls (v :: rest))) : W p l e R s m args below meth c H locs cells slots Q (F0 m pc ls (.ref a :: rest)) :=
  va_get (T := TCK) (N := 9) hx hb hts inCK hown hG.1 hP q0 he rfl 5 (by decide) (hts _ kfCK_46) (fun _ h => h) hv hdg kk
theorem kfCK_52 : (Cond.fieldLink "CoverKeys" 52 "CoverKeys" "decoders" "[LCoverKeys$Decoder;") ∈ ckT := ck_m1 (List.mem_of_getElem? (i := 161) rfl) rfl
theorem gfCK_52 (hx : p.tables.exec = Jvm.exec) (hb : c.code = cc) (hts : ∀ w ∈ ckT, w.before args s = true) (hown : s.vm.findClass "CoverKeys" = some m.cls) (hG : gk G A s s.heap) (hP : va_P G.1 vwCl ws H) (q0 : Nat) (he : ws[q0]? = some (oC a 7 fs)) (hv : fs[6]? = some v) (hdg : decode cc pc = .ok (.getfield 52, 3))
    (kk : W p l e R s m args below meth c H locs cells slots Q (F0 m (pc + 3) ls (v :: rest))) : W p l e R s m args below meth c H locs cells slots Q (F0 m pc ls (.ref a :: rest)) :=
  va_get (T := TCK) (N := 9) hx hb hts inCK hown hG.1 hP q0 he rfl 6 (by decide) (hts _ kfCK_52) (fun _ h => h) hv hdg kk
theorem kfCK_192 : (Cond.fieldLink "CoverKeys" 192 "CoverKeys" "outHigh" "J") ∈ ckT := ck_m1 (List.mem_of_getElem? (i := 162) rfl) rfl
theorem gfCK_192 (hx : p.tables.exec = Jvm.exec) (hb : c.code = cc) (hts : ∀ w ∈ ckT, w.before args s = true) (hown : s.vm.findClass "CoverKeys" = some m.cls) (hG : gk G A s s.heap) (hP : va_P G.1 vwCl ws H) (q0 : Nat) (he : ws[q0]? = some (oC a 7 fs)) (hv : fs[7]? = some v) (hdg : decode cc pc = .ok (.getfield 192, 3))
    (kk : W p l e R s m args below meth c H locs cells slots Q (F0 m (pc + 3) ls (v :: rest))) : W p l e R s m args below meth c H locs cells slots Q (F0 m pc ls (.ref a :: rest)) :=
  va_get (T := TCK) (N := 9) hx hb hts inCK hown hG.1 hP q0 he rfl 7 (by decide) (hts _ kfCK_192) (fun _ h => h) hv hdg kk
theorem pfCK_192 (hx : p.tables.exec = Jvm.exec) (hb : c.code = cc) (hts : ∀ w ∈ ckT, w.before args s = true) (hown : s.vm.findClass "CoverKeys" = some m.cls) (hG : gk G A s s.heap) (hP : va_P G.1 vwCl ws H) (hD : va_D A ws) (hS : va_S A s.heap H locs) (q0 : Nat) (he : ws[q0]? = some (oC a 7 fs)) (hn : narrow (.long) v = v) (hfit : fits (.long) v = true) (hl : 7 < fs.length) (hdg : decode cc pc = .ok (.putfield 192, 3))
    (kk : ∀ (H1 : Heap) (locs1 : List Loc), va_P G.1 vwCl (ws.set q0 (oC a 7 (fs.set 7 v))) H1 → va_D A (ws.set q0 (oC a 7 (fs.set 7 v))) → va_S A s.heap H1 locs1 → W p l e R s m args below meth c H1 locs1 cells slots Q (F0 m (pc + 3) ls rest)) : W p l e R s m args below meth c H locs cells slots Q (F0 m pc ls (v :: .ref a :: rest)) :=
  va_put (T := TCK) (N := 9) hx hb hts inCK tyCK tyCK_ok nmCK hown hG.1 hP hD hS q0 he rfl 7 (by decide) (hts _ kfCK_192) (fun _ h => h) rfl (tyCK_ok 7 (by decide)) hn hfit hl hdg kk
theorem kfCK_189 : (Cond.fieldLink "CoverKeys" 189 "CoverKeys" "outLow" "J") ∈ ckT := ck_m1 (List.mem_of_getElem? (i := 163) rfl) rfl
theorem gfCK_189 (hx : p.tables.exec = Jvm.exec) (hb : c.code = cc) (hts : ∀ w ∈ ckT, w.before args s = true) (hown : s.vm.findClass "CoverKeys" = some m.cls) (hG : gk G A s s.heap) (hP : va_P G.1 vwCl ws H) (q0 : Nat) (he : ws[q0]? = some (oC a 7 fs)) (hv : fs[8]? = some v) (hdg : decode cc pc = .ok (.getfield 189, 3))
    (kk : W p l e R s m args below meth c H locs cells slots Q (F0 m (pc + 3) ls (v :: rest))) : W p l e R s m args below meth c H locs cells slots Q (F0 m pc ls (.ref a :: rest)) :=
  va_get (T := TCK) (N := 9) hx hb hts inCK hown hG.1 hP q0 he rfl 8 (by decide) (hts _ kfCK_189) (fun _ h => h) hv hdg kk
theorem pfCK_189 (hx : p.tables.exec = Jvm.exec) (hb : c.code = cc) (hts : ∀ w ∈ ckT, w.before args s = true) (hown : s.vm.findClass "CoverKeys" = some m.cls) (hG : gk G A s s.heap) (hP : va_P G.1 vwCl ws H) (hD : va_D A ws) (hS : va_S A s.heap H locs) (q0 : Nat) (he : ws[q0]? = some (oC a 7 fs)) (hn : narrow (.long) v = v) (hfit : fits (.long) v = true) (hl : 8 < fs.length) (hdg : decode cc pc = .ok (.putfield 189, 3))
    (kk : ∀ (H1 : Heap) (locs1 : List Loc), va_P G.1 vwCl (ws.set q0 (oC a 7 (fs.set 8 v))) H1 → va_D A (ws.set q0 (oC a 7 (fs.set 8 v))) → va_S A s.heap H1 locs1 → W p l e R s m args below meth c H1 locs1 cells slots Q (F0 m (pc + 3) ls rest)) : W p l e R s m args below meth c H locs cells slots Q (F0 m pc ls (v :: .ref a :: rest)) :=
  va_put (T := TCK) (N := 9) hx hb hts inCK tyCK tyCK_ok nmCK hown hG.1 hP hD hS q0 he rfl 8 (by decide) (hts _ kfCK_189) (fun _ h => h) rfl (tyCK_ok 8 (by decide)) hn hfit hl hdg kk
theorem kfCK_169 : (Cond.fieldLink "CoverKeys" 169 "CoverKeys$Decoder" "periods" "[I") ∈ ckT := ck_m2 (List.mem_of_getElem? (i := 87) rfl) rfl
theorem gfCK_169 (hx : p.tables.exec = Jvm.exec) (hb : c.code = cc) (hts : ∀ w ∈ ckT, w.before args s = true) (hown : s.vm.findClass "CoverKeys" = some m.cls) (hG : gk G A s s.heap) (hP : va_P G.1 vwCl ws H) (q0 : Nat) (he : ws[q0]? = some (oC a 3 fs)) (hv : fs[0]? = some v) (hdg : decode cc pc = .ok (.getfield 169, 3))
    (kk : W p l e R s m args below meth c H locs cells slots Q (F0 m (pc + 3) ls (v :: rest))) : W p l e R s m args below meth c H locs cells slots Q (F0 m pc ls (.ref a :: rest)) :=
  va_get (T := TDe) (N := 3) hx hb hts inDe hown hG.1 hP q0 he rfl 0 (by decide) (hts _ kfCK_169) (fun _ h => h) hv hdg kk
theorem kfCK_182 : (Cond.fieldLink "CoverKeys" 182 "CoverKeys$Decoder" "highs" "[J") ∈ ckT := ck_m2 (List.mem_of_getElem? (i := 89) rfl) rfl
theorem gfCK_182 (hx : p.tables.exec = Jvm.exec) (hb : c.code = cc) (hts : ∀ w ∈ ckT, w.before args s = true) (hown : s.vm.findClass "CoverKeys" = some m.cls) (hG : gk G A s s.heap) (hP : va_P G.1 vwCl ws H) (q0 : Nat) (he : ws[q0]? = some (oC a 3 fs)) (hv : fs[1]? = some v) (hdg : decode cc pc = .ok (.getfield 182, 3))
    (kk : W p l e R s m args below meth c H locs cells slots Q (F0 m (pc + 3) ls (v :: rest))) : W p l e R s m args below meth c H locs cells slots Q (F0 m pc ls (.ref a :: rest)) :=
  va_get (T := TDe) (N := 3) hx hb hts inDe hown hG.1 hP q0 he rfl 1 (by decide) (hts _ kfCK_182) (fun _ h => h) hv hdg kk
theorem kfCK_186 : (Cond.fieldLink "CoverKeys" 186 "CoverKeys$Decoder" "lows" "[J") ∈ ckT := ck_m2 (List.mem_of_getElem? (i := 91) rfl) rfl
theorem gfCK_186 (hx : p.tables.exec = Jvm.exec) (hb : c.code = cc) (hts : ∀ w ∈ ckT, w.before args s = true) (hown : s.vm.findClass "CoverKeys" = some m.cls) (hG : gk G A s s.heap) (hP : va_P G.1 vwCl ws H) (q0 : Nat) (he : ws[q0]? = some (oC a 3 fs)) (hv : fs[2]? = some v) (hdg : decode cc pc = .ok (.getfield 186, 3))
    (kk : W p l e R s m args below meth c H locs cells slots Q (F0 m (pc + 3) ls (v :: rest))) : W p l e R s m args below meth c H locs cells slots Q (F0 m pc ls (.ref a :: rest)) :=
  va_get (T := TDe) (N := 3) hx hb hts inDe hown hG.1 hP q0 he rfl 2 (by decide) (hts _ kfCK_186) (fun _ h => h) hv hdg kk
end FLD
section CLL
variable {p : Program} {l : Launch} {e : Env} {R : Room} {s : State} {m : MethodId} {args : Array Value} {below : List Frame} {meth : Method} {c : Code} {H : Heap} {locs : List Loc} {cells slots : Nat} {Q : State → Prop}
variable {cc : ByteArray} {pc nL n : Nat} {ls : Array Slot} {rest st0 As : List Value} {G : gG} {A : Nat → Prop} {ws wi : va_W} {S : Type} {φ : S → Prop} {r : S → Option Value} {wo : S → va_W} {rm : Room} {b : Nat} {fs : List Value}
theorem kcTr_plant : Cond.code yTr_plant cTr_plant 6 none ∈ ckT := ck_m1 (List.mem_of_getElem? (i := 154) rfl) rfl
theorem kiTr_plant : Cond.instanceMethod yTr_plant ∈ ckT := ck_m1 (List.mem_of_getElem? (i := 152) rfl) rfl
theorem keTr_plant : Cond.selects "CoverKeys$Tree" yTr_plant yTr_plant ∈ ckT := ck_m1 (List.mem_of_getElem? (i := 153) rfl) rfl
theorem kmCK_57 : Cond.methodLink "CoverKeys" 57 yTr_plant ∈ ckT := ck_m1 (List.mem_of_getElem? (i := 151) rfl) rfl
theorem clCK_57 (hx : p.tables.exec = Jvm.exec) (hb : c.code = cc) (hml : c.maxLocals = nL) (hown : s.vm.findClass "CoverKeys" = some m.cls) (hts : ∀ w ∈ ckT, w.before args s = true) (hM : Cq l G yTr_plant cTr_plant 6 none rm (.ref b :: As) wi φ r wo) (hG : gk G A s s.heap) (hA : ∀ q : Nat, s.heap.size ≤ q → A q) (hP : va_P G.1 vwCl ws H) (hD : va_D A ws) (hS : va_S A s.heap H locs) (q0 : Nat) (hq : ws[q0]? = some (oC b 6 fs)) (is : List Nat) (hC : is.map (fun i => ws[i]?) = wi.map some) (hnd : va_nd is = true) (ha : ∀ u, (wo u).map (·.1) = wi.map (·.1)) (hn : As.length = 3) (hsize : ls.size = nL) (hst : st0 = As.reverse ++ .ref b :: rest) (hrm : (rest.map fun v => v.category).sum ≤ 8) (hR : rm.frames + 1 ≤ R.frames ∧ 8 + (6 + 11) + rm.locals ≤ R.locals) (hf : cells + rm.cells ≤ R.cells ∧ slots + rm.slots ≤ R.slots) (hdg : decode cc pc = .ok (.invokevirtual 57, 3)) (kk : ∀ (u : S) (H1 : Heap) (locs1 : List Loc), φ u → va_P G.1 vwCl (ck_set ws is (wo u)) H1 → va_D A (ck_set ws is (wo u)) → va_S A s.heap H1 locs1 → W p l e R s m args below meth c H1 locs1 (cells + rm.cells) (slots + rm.slots) Q (F0 m (pc + 3) ls ((r u).toList ++ rest))) :
    W p l e R s m args below meth c H locs cells slots Q (F0 m pc ls st0) :=
  cq_V (T := TTr) (N := 3) ⟨hx, hb, hml, hown, hts⟩ hM ⟨callB_of 3 hts (ck_gd0 kcTr_plant) rfl rfl rfl (hts _ knTr) (hts _ kmCK_57) ⟨by decide, by decide, by decide +kernel⟩ hR, hts _ kiTr_plant, hts _ keTr_plant⟩ hG hA hP hD hS hq rfl is hC hnd ha hn hsize hst hrm hdg hf kk
theorem kcPa_clear : Cond.code yPa_clear cPa_clear 1 none ∈ ckT := ck_m2 (List.mem_of_getElem? (i := 27) rfl) rfl
theorem kiPa_clear : Cond.instanceMethod yPa_clear ∈ ckT := ck_m2 (List.mem_of_getElem? (i := 25) rfl) rfl
theorem kePa_clear : Cond.selects "CoverKeys$Packet" yPa_clear yPa_clear ∈ ckT := ck_m2 (List.mem_of_getElem? (i := 26) rfl) rfl
theorem knPa : Cond.initialized "CoverKeys$Packet" ∈ ckT := ck_m1 (List.mem_of_getElem? (i := 6) rfl) rfl
theorem kmCK_68 : Cond.methodLink "CoverKeys" 68 yPa_clear ∈ ckT := ck_m2 (List.mem_of_getElem? (i := 24) rfl) rfl
theorem clCK_68 (hx : p.tables.exec = Jvm.exec) (hb : c.code = cc) (hml : c.maxLocals = nL) (hown : s.vm.findClass "CoverKeys" = some m.cls) (hts : ∀ w ∈ ckT, w.before args s = true) (hM : Cq l G yPa_clear cPa_clear 1 none rm (.ref b :: As) wi φ r wo) (hG : gk G A s s.heap) (hA : ∀ q : Nat, s.heap.size ≤ q → A q) (hP : va_P G.1 vwCl ws H) (hD : va_D A ws) (hS : va_S A s.heap H locs) (q0 : Nat) (hq : ws[q0]? = some (oC b 5 fs)) (is : List Nat) (hC : is.map (fun i => ws[i]?) = wi.map some) (hnd : va_nd is = true) (ha : ∀ u, (wo u).map (·.1) = wi.map (·.1)) (hn : As.length = 0) (hsize : ls.size = nL) (hst : st0 = As.reverse ++ .ref b :: rest) (hrm : (rest.map fun v => v.category).sum ≤ 8) (hR : rm.frames + 1 ≤ R.frames ∧ 8 + (1 + 11) + rm.locals ≤ R.locals) (hf : cells + rm.cells ≤ R.cells ∧ slots + rm.slots ≤ R.slots) (hdg : decode cc pc = .ok (.invokevirtual 68, 3)) (kk : ∀ (u : S) (H1 : Heap) (locs1 : List Loc), φ u → va_P G.1 vwCl (ck_set ws is (wo u)) H1 → va_D A (ck_set ws is (wo u)) → va_S A s.heap H1 locs1 → W p l e R s m args below meth c H1 locs1 (cells + rm.cells) (slots + rm.slots) Q (F0 m (pc + 3) ls ((r u).toList ++ rest))) :
    W p l e R s m args below meth c H locs cells slots Q (F0 m pc ls st0) :=
  cq_V (T := TPa) (N := 2) ⟨hx, hb, hml, hown, hts⟩ hM ⟨callB_of 0 hts (ck_gd0 kcPa_clear) rfl rfl rfl (hts _ knPa) (hts _ kmCK_68) ⟨by decide, by decide, by decide +kernel⟩ hR, hts _ kiPa_clear, hts _ kePa_clear⟩ hG hA hP hD hS hq rfl is hC hnd ha hn hsize hst hrm hdg hf kk
theorem kcCh_clear : Cond.code yCh_clear cCh_clear 2 none ∈ ckT := ck_m2 (List.mem_of_getElem? (i := 31) rfl) rfl
theorem kiCh_clear : Cond.instanceMethod yCh_clear ∈ ckT := ck_m2 (List.mem_of_getElem? (i := 29) rfl) rfl
theorem keCh_clear : Cond.selects "CoverKeys$Channel" yCh_clear yCh_clear ∈ ckT := ck_m2 (List.mem_of_getElem? (i := 30) rfl) rfl
theorem kmCK_71 : Cond.methodLink "CoverKeys" 71 yCh_clear ∈ ckT := ck_m2 (List.mem_of_getElem? (i := 28) rfl) rfl
theorem clCK_71 (hx : p.tables.exec = Jvm.exec) (hb : c.code = cc) (hml : c.maxLocals = nL) (hown : s.vm.findClass "CoverKeys" = some m.cls) (hts : ∀ w ∈ ckT, w.before args s = true) (hM : Cq l G yCh_clear cCh_clear 2 none rm (.ref b :: As) wi φ r wo) (hG : gk G A s s.heap) (hA : ∀ q : Nat, s.heap.size ≤ q → A q) (hP : va_P G.1 vwCl ws H) (hD : va_D A ws) (hS : va_S A s.heap H locs) (q0 : Nat) (hq : ws[q0]? = some (oC b 0 fs)) (is : List Nat) (hC : is.map (fun i => ws[i]?) = wi.map some) (hnd : va_nd is = true) (ha : ∀ u, (wo u).map (·.1) = wi.map (·.1)) (hn : As.length = 0) (hsize : ls.size = nL) (hst : st0 = As.reverse ++ .ref b :: rest) (hrm : (rest.map fun v => v.category).sum ≤ 8) (hR : rm.frames + 1 ≤ R.frames ∧ 8 + (2 + 11) + rm.locals ≤ R.locals) (hf : cells + rm.cells ≤ R.cells ∧ slots + rm.slots ≤ R.slots) (hdg : decode cc pc = .ok (.invokevirtual 71, 3)) (kk : ∀ (u : S) (H1 : Heap) (locs1 : List Loc), φ u → va_P G.1 vwCl (ck_set ws is (wo u)) H1 → va_D A (ck_set ws is (wo u)) → va_S A s.heap H1 locs1 → W p l e R s m args below meth c H1 locs1 (cells + rm.cells) (slots + rm.slots) Q (F0 m (pc + 3) ls ((r u).toList ++ rest))) :
    W p l e R s m args below meth c H locs cells slots Q (F0 m pc ls st0) :=
  cq_V (T := TCh) (N := 7) ⟨hx, hb, hml, hown, hts⟩ hM ⟨callB_of 0 hts (ck_gd0 kcCh_clear) rfl rfl rfl (hts _ knCh) (hts _ kmCK_71) ⟨by decide, by decide, by decide +kernel⟩ hR, hts _ kiCh_clear, hts _ keCh_clear⟩ hG hA hP hD hS hq rfl is hC hnd ha hn hsize hst hrm hdg hf kk
theorem kcCK_checkDecoder : Cond.code yCK_checkDecoder cCK_checkDecoder 2 none ∈ ckT := ck_m2 (List.mem_of_getElem? (i := 44) rfl) rfl
theorem kiCK_checkDecoder : Cond.instanceMethod yCK_checkDecoder ∈ ckT := ck_m2 (List.mem_of_getElem? (i := 43) rfl) rfl
theorem keCK_checkDecoder : Cond.selects "CoverKeys" yCK_checkDecoder yCK_checkDecoder ∈ ckT := ck_ms (List.mem_of_getElem? (i := 1) rfl) rfl
theorem knCK : Cond.initialized "CoverKeys" ∈ ckT := ck_m1 (List.mem_of_getElem? (i := 1) rfl) rfl
theorem kmCK_72 : Cond.methodLink "CoverKeys" 72 yCK_checkDecoder ∈ ckT := ck_m2 (List.mem_of_getElem? (i := 41) rfl) rfl
theorem clCK_72 (hx : p.tables.exec = Jvm.exec) (hb : c.code = cc) (hml : c.maxLocals = nL) (hown : s.vm.findClass "CoverKeys" = some m.cls) (hts : ∀ w ∈ ckT, w.before args s = true) (hM : Cq l G yCK_checkDecoder cCK_checkDecoder 2 none rm (.ref b :: As) wi φ r wo) (hG : gk G A s s.heap) (hA : ∀ q : Nat, s.heap.size ≤ q → A q) (hP : va_P G.1 vwCl ws H) (hD : va_D A ws) (hS : va_S A s.heap H locs) (q0 : Nat) (hq : ws[q0]? = some (oC b 7 fs)) (is : List Nat) (hC : is.map (fun i => ws[i]?) = wi.map some) (hnd : va_nd is = true) (ha : ∀ u, (wo u).map (·.1) = wi.map (·.1)) (hn : As.length = 1) (hsize : ls.size = nL) (hst : st0 = As.reverse ++ .ref b :: rest) (hrm : (rest.map fun v => v.category).sum ≤ 8) (hR : rm.frames + 1 ≤ R.frames ∧ 8 + (2 + 11) + rm.locals ≤ R.locals) (hf : cells + rm.cells ≤ R.cells ∧ slots + rm.slots ≤ R.slots) (hdg : decode cc pc = .ok (.invokevirtual 72, 3)) (kk : ∀ (u : S) (H1 : Heap) (locs1 : List Loc), φ u → va_P G.1 vwCl (ck_set ws is (wo u)) H1 → va_D A (ck_set ws is (wo u)) → va_S A s.heap H1 locs1 → W p l e R s m args below meth c H1 locs1 (cells + rm.cells) (slots + rm.slots) Q (F0 m (pc + 3) ls ((r u).toList ++ rest))) :
    W p l e R s m args below meth c H locs cells slots Q (F0 m pc ls st0) :=
  cq_V (T := TCK) (N := 9) ⟨hx, hb, hml, hown, hts⟩ hM ⟨callB_of 1 hts (ck_gd0 kcCK_checkDecoder) rfl rfl rfl (hts _ knCK) (hts _ kmCK_72) ⟨by decide, by decide, by decide +kernel⟩ hR, hts _ kiCK_checkDecoder, hts _ keCK_checkDecoder⟩ hG hA hP hD hS hq rfl is hC hnd ha hn hsize hst hrm hdg hf kk
theorem kmCK_251 : Cond.methodLink "CoverKeys" 251 yTr_leaves ∈ ckT := ck_m2 (List.mem_of_getElem? (i := 45) rfl) rfl
theorem clCK_251 (hx : p.tables.exec = Jvm.exec) (hb : c.code = cc) (hml : c.maxLocals = nL) (hown : s.vm.findClass "CoverKeys" = some m.cls) (hts : ∀ w ∈ ckT, w.before args s = true) (hM : Cq l G yTr_leaves cTr_leaves 1 (some .int) rm (.ref b :: As) wi φ r wo) (hG : gk G A s s.heap) (hA : ∀ q : Nat, s.heap.size ≤ q → A q) (hP : va_P G.1 vwCl ws H) (hD : va_D A ws) (hS : va_S A s.heap H locs) (q0 : Nat) (hq : ws[q0]? = some (oC b 6 fs)) (is : List Nat) (hC : is.map (fun i => ws[i]?) = wi.map some) (hnd : va_nd is = true) (ha : ∀ u, (wo u).map (·.1) = wi.map (·.1)) (hn : As.length = 0) (hsize : ls.size = nL) (hst : st0 = As.reverse ++ .ref b :: rest) (hrm : (rest.map fun v => v.category).sum ≤ 8) (hR : rm.frames + 1 ≤ R.frames ∧ 8 + (1 + 11) + rm.locals ≤ R.locals) (hf : cells + rm.cells ≤ R.cells ∧ slots + rm.slots ≤ R.slots) (hdg : decode cc pc = .ok (.invokevirtual 251, 3)) (kk : ∀ (u : S) (H1 : Heap) (locs1 : List Loc), φ u → va_P G.1 vwCl (ck_set ws is (wo u)) H1 → va_D A (ck_set ws is (wo u)) → va_S A s.heap H1 locs1 → W p l e R s m args below meth c H1 locs1 (cells + rm.cells) (slots + rm.slots) Q (F0 m (pc + 3) ls ((r u).toList ++ rest))) :
    W p l e R s m args below meth c H locs cells slots Q (F0 m pc ls st0) :=
  cq_V (T := TTr) (N := 3) ⟨hx, hb, hml, hown, hts⟩ hM ⟨callB_of 0 hts (ck_gd0 kcTr_leaves) rfl rfl rfl (hts _ knTr) (hts _ kmCK_251) ⟨by decide, by decide, by decide +kernel⟩ hR, hts _ kiTr_leaves, hts _ keTr_leaves⟩ hG hA hP hD hS hq rfl is hC hnd ha hn hsize hst hrm hdg hf kk
theorem kcTr_labelsEach : Cond.code yTr_labelsEach cTr_labelsEach 1 (some .int) ∈ ckT := ck_m2 (List.mem_of_getElem? (i := 103) rfl) rfl
theorem kiTr_labelsEach : Cond.instanceMethod yTr_labelsEach ∈ ckT := ck_m2 (List.mem_of_getElem? (i := 101) rfl) rfl
theorem keTr_labelsEach : Cond.selects "CoverKeys$Tree" yTr_labelsEach yTr_labelsEach ∈ ckT := ck_m2 (List.mem_of_getElem? (i := 102) rfl) rfl
theorem kmCK_82 : Cond.methodLink "CoverKeys" 82 yTr_labelsEach ∈ ckT := ck_m2 (List.mem_of_getElem? (i := 100) rfl) rfl
theorem clCK_82 (hx : p.tables.exec = Jvm.exec) (hb : c.code = cc) (hml : c.maxLocals = nL) (hown : s.vm.findClass "CoverKeys" = some m.cls) (hts : ∀ w ∈ ckT, w.before args s = true) (hM : Cq l G yTr_labelsEach cTr_labelsEach 1 (some .int) rm (.ref b :: As) wi φ r wo) (hG : gk G A s s.heap) (hA : ∀ q : Nat, s.heap.size ≤ q → A q) (hP : va_P G.1 vwCl ws H) (hD : va_D A ws) (hS : va_S A s.heap H locs) (q0 : Nat) (hq : ws[q0]? = some (oC b 6 fs)) (is : List Nat) (hC : is.map (fun i => ws[i]?) = wi.map some) (hnd : va_nd is = true) (ha : ∀ u, (wo u).map (·.1) = wi.map (·.1)) (hn : As.length = 0) (hsize : ls.size = nL) (hst : st0 = As.reverse ++ .ref b :: rest) (hrm : (rest.map fun v => v.category).sum ≤ 8) (hR : rm.frames + 1 ≤ R.frames ∧ 8 + (1 + 11) + rm.locals ≤ R.locals) (hf : cells + rm.cells ≤ R.cells ∧ slots + rm.slots ≤ R.slots) (hdg : decode cc pc = .ok (.invokevirtual 82, 3)) (kk : ∀ (u : S) (H1 : Heap) (locs1 : List Loc), φ u → va_P G.1 vwCl (ck_set ws is (wo u)) H1 → va_D A (ck_set ws is (wo u)) → va_S A s.heap H1 locs1 → W p l e R s m args below meth c H1 locs1 (cells + rm.cells) (slots + rm.slots) Q (F0 m (pc + 3) ls ((r u).toList ++ rest))) :
    W p l e R s m args below meth c H locs cells slots Q (F0 m pc ls st0) :=
  cq_V (T := TTr) (N := 3) ⟨hx, hb, hml, hown, hts⟩ hM ⟨callB_of 0 hts (ck_gd0 kcTr_labelsEach) rfl rfl rfl (hts _ knTr) (hts _ kmCK_82) ⟨by decide, by decide, by decide +kernel⟩ hR, hts _ kiTr_labelsEach, hts _ keTr_labelsEach⟩ hG hA hP hD hS hq rfl is hC hnd ha hn hsize hst hrm hdg hf kk
theorem kcCK_checkChannel : Cond.code yCK_checkChannel cCK_checkChannel 1 none ∈ ckT := ck_m2 (List.mem_of_getElem? (i := 113) rfl) rfl
theorem ksCK_checkChannel : Cond.static yCK_checkChannel ∈ ckT := ck_m2 (List.mem_of_getElem? (i := 112) rfl) rfl
theorem kmCK_86 : Cond.methodLink "CoverKeys" 86 yCK_checkChannel ∈ ckT := ck_m2 (List.mem_of_getElem? (i := 111) rfl) rfl
theorem clCK_86 (hx : p.tables.exec = Jvm.exec) (hb : c.code = cc) (hml : c.maxLocals = nL) (hown : s.vm.findClass "CoverKeys" = some m.cls) (hts : ∀ w ∈ ckT, w.before args s = true) (hM : Cq l G yCK_checkChannel cCK_checkChannel 1 none rm As wi φ r wo) (hG : gk G A s s.heap) (hA : ∀ q : Nat, s.heap.size ≤ q → A q) (hP : va_P G.1 vwCl ws H) (hD : va_D A ws) (hS : va_S A s.heap H locs) (is : List Nat) (hC : is.map (fun i => ws[i]?) = wi.map some) (hnd : va_nd is = true) (ha : ∀ u, (wo u).map (·.1) = wi.map (·.1)) (hn : As.length = 1) (hsize : ls.size = nL) (hst : st0 = As.reverse ++ rest) (hrm : (rest.map fun v => v.category).sum ≤ 8) (hR : rm.frames + 1 ≤ R.frames ∧ 8 + (1 + 11) + rm.locals ≤ R.locals) (hf : cells + rm.cells ≤ R.cells ∧ slots + rm.slots ≤ R.slots) (hdg : decode cc pc = .ok (.invokestatic 86, 3)) (kk : ∀ (u : S) (H1 : Heap) (locs1 : List Loc), φ u → va_P G.1 vwCl (ck_set ws is (wo u)) H1 → va_D A (ck_set ws is (wo u)) → va_S A s.heap H1 locs1 → W p l e R s m args below meth c H1 locs1 (cells + rm.cells) (slots + rm.slots) Q (F0 m (pc + 3) ls ((r u).toList ++ rest))) :
    W p l e R s m args below meth c H locs cells slots Q (F0 m pc ls st0) :=
  cq_S ⟨hx, hb, hml, hown, hts⟩ hM ⟨callB_of 1 hts (ck_gd0 kcCK_checkChannel) rfl rfl rfl (hts _ knCK) (hts _ kmCK_86) ⟨by decide, by decide, by decide +kernel⟩ hR, hts _ ksCK_checkChannel⟩ hG hA hP hD hS is hC hnd ha hn hsize hst hrm hdg hf kk
theorem kcCK_isChannel : Cond.code yCK_isChannel cCK_isChannel 1 (some .boolean) ∈ ckT := ck_m2 (List.mem_of_getElem? (i := 116) rfl) rfl
theorem ksCK_isChannel : Cond.static yCK_isChannel ∈ ckT := ck_m2 (List.mem_of_getElem? (i := 115) rfl) rfl
theorem kmCK_195 : Cond.methodLink "CoverKeys" 195 yCK_isChannel ∈ ckT := ck_m2 (List.mem_of_getElem? (i := 114) rfl) rfl
theorem clCK_195 (hx : p.tables.exec = Jvm.exec) (hb : c.code = cc) (hml : c.maxLocals = nL) (hown : s.vm.findClass "CoverKeys" = some m.cls) (hts : ∀ w ∈ ckT, w.before args s = true) (hM : Cq l G yCK_isChannel cCK_isChannel 1 (some .boolean) rm As wi φ r wo) (hG : gk G A s s.heap) (hA : ∀ q : Nat, s.heap.size ≤ q → A q) (hP : va_P G.1 vwCl ws H) (hD : va_D A ws) (hS : va_S A s.heap H locs) (is : List Nat) (hC : is.map (fun i => ws[i]?) = wi.map some) (hnd : va_nd is = true) (ha : ∀ u, (wo u).map (·.1) = wi.map (·.1)) (hn : As.length = 1) (hsize : ls.size = nL) (hst : st0 = As.reverse ++ rest) (hrm : (rest.map fun v => v.category).sum ≤ 8) (hR : rm.frames + 1 ≤ R.frames ∧ 8 + (1 + 11) + rm.locals ≤ R.locals) (hf : cells + rm.cells ≤ R.cells ∧ slots + rm.slots ≤ R.slots) (hdg : decode cc pc = .ok (.invokestatic 195, 3)) (kk : ∀ (u : S) (H1 : Heap) (locs1 : List Loc), φ u → va_P G.1 vwCl (ck_set ws is (wo u)) H1 → va_D A (ck_set ws is (wo u)) → va_S A s.heap H1 locs1 → W p l e R s m args below meth c H1 locs1 (cells + rm.cells) (slots + rm.slots) Q (F0 m (pc + 3) ls ((r u).toList ++ rest))) :
    W p l e R s m args below meth c H locs cells slots Q (F0 m pc ls st0) :=
  cq_S ⟨hx, hb, hml, hown, hts⟩ hM ⟨callB_of 1 hts (ck_gd0 kcCK_isChannel) rfl rfl rfl (hts _ knCK) (hts _ kmCK_195) ⟨by decide, by decide, by decide +kernel⟩ hR, hts _ ksCK_isChannel⟩ hG hA hP hD hS is hC hnd ha hn hsize hst hrm hdg hf kk
theorem kcCh_beginPeriod : Cond.code yCh_beginPeriod cCh_beginPeriod 5 none ∈ ckT := ck_m2 (List.mem_of_getElem? (i := 145) rfl) rfl
theorem kiCh_beginPeriod : Cond.instanceMethod yCh_beginPeriod ∈ ckT := ck_m2 (List.mem_of_getElem? (i := 143) rfl) rfl
theorem keCh_beginPeriod : Cond.selects "CoverKeys$Channel" yCh_beginPeriod yCh_beginPeriod ∈ ckT := ck_m2 (List.mem_of_getElem? (i := 144) rfl) rfl
theorem kmCK_102 : Cond.methodLink "CoverKeys" 102 yCh_beginPeriod ∈ ckT := ck_m2 (List.mem_of_getElem? (i := 142) rfl) rfl
theorem clCK_102 (hx : p.tables.exec = Jvm.exec) (hb : c.code = cc) (hml : c.maxLocals = nL) (hown : s.vm.findClass "CoverKeys" = some m.cls) (hts : ∀ w ∈ ckT, w.before args s = true) (hM : Cq l G yCh_beginPeriod cCh_beginPeriod 5 none rm (.ref b :: As) wi φ r wo) (hG : gk G A s s.heap) (hA : ∀ q : Nat, s.heap.size ≤ q → A q) (hP : va_P G.1 vwCl ws H) (hD : va_D A ws) (hS : va_S A s.heap H locs) (q0 : Nat) (hq : ws[q0]? = some (oC b 0 fs)) (is : List Nat) (hC : is.map (fun i => ws[i]?) = wi.map some) (hnd : va_nd is = true) (ha : ∀ u, (wo u).map (·.1) = wi.map (·.1)) (hn : As.length = 2) (hsize : ls.size = nL) (hst : st0 = As.reverse ++ .ref b :: rest) (hrm : (rest.map fun v => v.category).sum ≤ 8) (hR : rm.frames + 1 ≤ R.frames ∧ 8 + (5 + 11) + rm.locals ≤ R.locals) (hf : cells + rm.cells ≤ R.cells ∧ slots + rm.slots ≤ R.slots) (hdg : decode cc pc = .ok (.invokevirtual 102, 3)) (kk : ∀ (u : S) (H1 : Heap) (locs1 : List Loc), φ u → va_P G.1 vwCl (ck_set ws is (wo u)) H1 → va_D A (ck_set ws is (wo u)) → va_S A s.heap H1 locs1 → W p l e R s m args below meth c H1 locs1 (cells + rm.cells) (slots + rm.slots) Q (F0 m (pc + 3) ls ((r u).toList ++ rest))) :
    W p l e R s m args below meth c H locs cells slots Q (F0 m pc ls st0) :=
  cq_V (T := TCh) (N := 7) ⟨hx, hb, hml, hown, hts⟩ hM ⟨callB_of 2 hts (ck_gd0 kcCh_beginPeriod) rfl rfl rfl (hts _ knCh) (hts _ kmCK_102) ⟨by decide, by decide, by decide +kernel⟩ hR, hts _ kiCh_beginPeriod, hts _ keCh_beginPeriod⟩ hG hA hP hD hS hq rfl is hC hnd ha hn hsize hst hrm hdg hf kk
theorem kcCo_find : Cond.code yCo_find cCo_find 6 none ∈ ckT := ck_m2 (List.mem_of_getElem? (i := 149) rfl) rfl
theorem kiCo_find : Cond.instanceMethod yCo_find ∈ ckT := ck_m2 (List.mem_of_getElem? (i := 147) rfl) rfl
theorem keCo_find : Cond.selects "CoverKeys$Cover" yCo_find yCo_find ∈ ckT := ck_m2 (List.mem_of_getElem? (i := 148) rfl) rfl
theorem kmCK_106 : Cond.methodLink "CoverKeys" 106 yCo_find ∈ ckT := ck_m2 (List.mem_of_getElem? (i := 146) rfl) rfl
theorem clCK_106 (hx : p.tables.exec = Jvm.exec) (hb : c.code = cc) (hml : c.maxLocals = nL) (hown : s.vm.findClass "CoverKeys" = some m.cls) (hts : ∀ w ∈ ckT, w.before args s = true) (hM : Cq l G yCo_find cCo_find 6 none rm (.ref b :: As) wi φ r wo) (hG : gk G A s s.heap) (hA : ∀ q : Nat, s.heap.size ≤ q → A q) (hP : va_P G.1 vwCl ws H) (hD : va_D A ws) (hS : va_S A s.heap H locs) (q0 : Nat) (hq : ws[q0]? = some (oC b 2 fs)) (is : List Nat) (hC : is.map (fun i => ws[i]?) = wi.map some) (hnd : va_nd is = true) (ha : ∀ u, (wo u).map (·.1) = wi.map (·.1)) (hn : As.length = 2) (hsize : ls.size = nL) (hst : st0 = As.reverse ++ .ref b :: rest) (hrm : (rest.map fun v => v.category).sum ≤ 8) (hR : rm.frames + 1 ≤ R.frames ∧ 8 + (6 + 11) + rm.locals ≤ R.locals) (hf : cells + rm.cells ≤ R.cells ∧ slots + rm.slots ≤ R.slots) (hdg : decode cc pc = .ok (.invokevirtual 106, 3)) (kk : ∀ (u : S) (H1 : Heap) (locs1 : List Loc), φ u → va_P G.1 vwCl (ck_set ws is (wo u)) H1 → va_D A (ck_set ws is (wo u)) → va_S A s.heap H1 locs1 → W p l e R s m args below meth c H1 locs1 (cells + rm.cells) (slots + rm.slots) Q (F0 m (pc + 3) ls ((r u).toList ++ rest))) :
    W p l e R s m args below meth c H locs cells slots Q (F0 m pc ls st0) :=
  cq_V (T := TCo) (N := 1) ⟨hx, hb, hml, hown, hts⟩ hM ⟨callB_of 2 hts (ck_gd0 kcCo_find) rfl rfl rfl (hts _ knCo) (hts _ kmCK_106) ⟨by decide, by decide, by decide +kernel⟩ hR, hts _ kiCo_find, hts _ keCo_find⟩ hG hA hP hD hS hq rfl is hC hnd ha hn hsize hst hrm hdg hf kk
theorem kcCK_checkBegan : Cond.code yCK_checkBegan cCK_checkBegan 2 none ∈ ckT := ck_m2 (List.mem_of_getElem? (i := 173) rfl) rfl
theorem kiCK_checkBegan : Cond.instanceMethod yCK_checkBegan ∈ ckT := ck_m2 (List.mem_of_getElem? (i := 172) rfl) rfl
theorem keCK_checkBegan : Cond.selects "CoverKeys" yCK_checkBegan yCK_checkBegan ∈ ckT := ck_ms (List.mem_of_getElem? (i := 4) rfl) rfl
theorem kmCK_113 : Cond.methodLink "CoverKeys" 113 yCK_checkBegan ∈ ckT := ck_m2 (List.mem_of_getElem? (i := 170) rfl) rfl
theorem clCK_113 (hx : p.tables.exec = Jvm.exec) (hb : c.code = cc) (hml : c.maxLocals = nL) (hown : s.vm.findClass "CoverKeys" = some m.cls) (hts : ∀ w ∈ ckT, w.before args s = true) (hM : Cq l G yCK_checkBegan cCK_checkBegan 2 none rm (.ref b :: As) wi φ r wo) (hG : gk G A s s.heap) (hA : ∀ q : Nat, s.heap.size ≤ q → A q) (hP : va_P G.1 vwCl ws H) (hD : va_D A ws) (hS : va_S A s.heap H locs) (q0 : Nat) (hq : ws[q0]? = some (oC b 7 fs)) (is : List Nat) (hC : is.map (fun i => ws[i]?) = wi.map some) (hnd : va_nd is = true) (ha : ∀ u, (wo u).map (·.1) = wi.map (·.1)) (hn : As.length = 1) (hsize : ls.size = nL) (hst : st0 = As.reverse ++ .ref b :: rest) (hrm : (rest.map fun v => v.category).sum ≤ 8) (hR : rm.frames + 1 ≤ R.frames ∧ 8 + (2 + 11) + rm.locals ≤ R.locals) (hf : cells + rm.cells ≤ R.cells ∧ slots + rm.slots ≤ R.slots) (hdg : decode cc pc = .ok (.invokevirtual 113, 3)) (kk : ∀ (u : S) (H1 : Heap) (locs1 : List Loc), φ u → va_P G.1 vwCl (ck_set ws is (wo u)) H1 → va_D A (ck_set ws is (wo u)) → va_S A s.heap H1 locs1 → W p l e R s m args below meth c H1 locs1 (cells + rm.cells) (slots + rm.slots) Q (F0 m (pc + 3) ls ((r u).toList ++ rest))) :
    W p l e R s m args below meth c H locs cells slots Q (F0 m pc ls st0) :=
  cq_V (T := TCK) (N := 9) ⟨hx, hb, hml, hown, hts⟩ hM ⟨callB_of 1 hts (ck_gd0 kcCK_checkBegan) rfl rfl rfl (hts _ knCK) (hts _ kmCK_113) ⟨by decide, by decide, by decide +kernel⟩ hR, hts _ kiCK_checkBegan, hts _ keCK_checkBegan⟩ hG hA hP hD hS hq rfl is hC hnd ha hn hsize hst hrm hdg hf kk
theorem kcCh_packets : Cond.code yCh_packets cCh_packets 1 (some .int) ∈ ckT := ck_m2 (List.mem_of_getElem? (i := 178) rfl) rfl
theorem kiCh_packets : Cond.instanceMethod yCh_packets ∈ ckT := ck_m2 (List.mem_of_getElem? (i := 176) rfl) rfl
theorem keCh_packets : Cond.selects "CoverKeys$Channel" yCh_packets yCh_packets ∈ ckT := ck_m2 (List.mem_of_getElem? (i := 177) rfl) rfl
theorem kmCK_116 : Cond.methodLink "CoverKeys" 116 yCh_packets ∈ ckT := ck_m2 (List.mem_of_getElem? (i := 175) rfl) rfl
theorem clCK_116 (hx : p.tables.exec = Jvm.exec) (hb : c.code = cc) (hml : c.maxLocals = nL) (hown : s.vm.findClass "CoverKeys" = some m.cls) (hts : ∀ w ∈ ckT, w.before args s = true) (hM : Cq l G yCh_packets cCh_packets 1 (some .int) rm (.ref b :: As) wi φ r wo) (hG : gk G A s s.heap) (hA : ∀ q : Nat, s.heap.size ≤ q → A q) (hP : va_P G.1 vwCl ws H) (hD : va_D A ws) (hS : va_S A s.heap H locs) (q0 : Nat) (hq : ws[q0]? = some (oC b 0 fs)) (is : List Nat) (hC : is.map (fun i => ws[i]?) = wi.map some) (hnd : va_nd is = true) (ha : ∀ u, (wo u).map (·.1) = wi.map (·.1)) (hn : As.length = 0) (hsize : ls.size = nL) (hst : st0 = As.reverse ++ .ref b :: rest) (hrm : (rest.map fun v => v.category).sum ≤ 8) (hR : rm.frames + 1 ≤ R.frames ∧ 8 + (1 + 11) + rm.locals ≤ R.locals) (hf : cells + rm.cells ≤ R.cells ∧ slots + rm.slots ≤ R.slots) (hdg : decode cc pc = .ok (.invokevirtual 116, 3)) (kk : ∀ (u : S) (H1 : Heap) (locs1 : List Loc), φ u → va_P G.1 vwCl (ck_set ws is (wo u)) H1 → va_D A (ck_set ws is (wo u)) → va_S A s.heap H1 locs1 → W p l e R s m args below meth c H1 locs1 (cells + rm.cells) (slots + rm.slots) Q (F0 m (pc + 3) ls ((r u).toList ++ rest))) :
    W p l e R s m args below meth c H locs cells slots Q (F0 m pc ls st0) :=
  cq_V (T := TCh) (N := 7) ⟨hx, hb, hml, hown, hts⟩ hM ⟨callB_of 0 hts (ck_gd0 kcCh_packets) rfl rfl rfl (hts _ knCh) (hts _ kmCK_116) ⟨by decide, by decide, by decide +kernel⟩ hR, hts _ kiCh_packets, hts _ keCh_packets⟩ hG hA hP hD hS hq rfl is hC hnd ha hn hsize hst hrm hdg hf kk
theorem kcPa_put : Cond.code yPa_put cPa_put 5 none ∈ ckT := ck_m2 (List.mem_of_getElem? (i := 186) rfl) rfl
theorem kiPa_put : Cond.instanceMethod yPa_put ∈ ckT := ck_m2 (List.mem_of_getElem? (i := 184) rfl) rfl
theorem kePa_put : Cond.selects "CoverKeys$Packet" yPa_put yPa_put ∈ ckT := ck_m2 (List.mem_of_getElem? (i := 185) rfl) rfl
theorem kmCK_121 : Cond.methodLink "CoverKeys" 121 yPa_put ∈ ckT := ck_m2 (List.mem_of_getElem? (i := 183) rfl) rfl
theorem clCK_121 (hx : p.tables.exec = Jvm.exec) (hb : c.code = cc) (hml : c.maxLocals = nL) (hown : s.vm.findClass "CoverKeys" = some m.cls) (hts : ∀ w ∈ ckT, w.before args s = true) (hM : Cq l G yPa_put cPa_put 5 none rm (.ref b :: As) wi φ r wo) (hG : gk G A s s.heap) (hA : ∀ q : Nat, s.heap.size ≤ q → A q) (hP : va_P G.1 vwCl ws H) (hD : va_D A ws) (hS : va_S A s.heap H locs) (q0 : Nat) (hq : ws[q0]? = some (oC b 5 fs)) (is : List Nat) (hC : is.map (fun i => ws[i]?) = wi.map some) (hnd : va_nd is = true) (ha : ∀ u, (wo u).map (·.1) = wi.map (·.1)) (hn : As.length = 2) (hsize : ls.size = nL) (hst : st0 = As.reverse ++ .ref b :: rest) (hrm : (rest.map fun v => v.category).sum ≤ 8) (hR : rm.frames + 1 ≤ R.frames ∧ 8 + (5 + 11) + rm.locals ≤ R.locals) (hf : cells + rm.cells ≤ R.cells ∧ slots + rm.slots ≤ R.slots) (hdg : decode cc pc = .ok (.invokevirtual 121, 3)) (kk : ∀ (u : S) (H1 : Heap) (locs1 : List Loc), φ u → va_P G.1 vwCl (ck_set ws is (wo u)) H1 → va_D A (ck_set ws is (wo u)) → va_S A s.heap H1 locs1 → W p l e R s m args below meth c H1 locs1 (cells + rm.cells) (slots + rm.slots) Q (F0 m (pc + 3) ls ((r u).toList ++ rest))) :
    W p l e R s m args below meth c H locs cells slots Q (F0 m pc ls st0) :=
  cq_V (T := TPa) (N := 2) ⟨hx, hb, hml, hown, hts⟩ hM ⟨callB_of 2 hts (ck_gd0 kcPa_put) rfl rfl rfl (hts _ knPa) (hts _ kmCK_121) ⟨by decide, by decide, by decide +kernel⟩ hR, hts _ kiPa_put, hts _ kePa_put⟩ hG hA hP hD hS hq rfl is hC hnd ha hn hsize hst hrm hdg hf kk
theorem kcCK_putEntry : Cond.code yCK_putEntry cCK_putEntry 3 none ∈ ckT := ck_m2 (List.mem_of_getElem? (i := 193) rfl) rfl
theorem kiCK_putEntry : Cond.instanceMethod yCK_putEntry ∈ ckT := ck_m2 (List.mem_of_getElem? (i := 192) rfl) rfl
theorem keCK_putEntry : Cond.selects "CoverKeys" yCK_putEntry yCK_putEntry ∈ ckT := ck_ms (List.mem_of_getElem? (i := 5) rfl) rfl
theorem kmCK_131 : Cond.methodLink "CoverKeys" 131 yCK_putEntry ∈ ckT := ck_m2 (List.mem_of_getElem? (i := 190) rfl) rfl
theorem clCK_131 (hx : p.tables.exec = Jvm.exec) (hb : c.code = cc) (hml : c.maxLocals = nL) (hown : s.vm.findClass "CoverKeys" = some m.cls) (hts : ∀ w ∈ ckT, w.before args s = true) (hM : Cq l G yCK_putEntry cCK_putEntry 3 none rm (.ref b :: As) wi φ r wo) (hG : gk G A s s.heap) (hA : ∀ q : Nat, s.heap.size ≤ q → A q) (hP : va_P G.1 vwCl ws H) (hD : va_D A ws) (hS : va_S A s.heap H locs) (q0 : Nat) (hq : ws[q0]? = some (oC b 7 fs)) (is : List Nat) (hC : is.map (fun i => ws[i]?) = wi.map some) (hnd : va_nd is = true) (ha : ∀ u, (wo u).map (·.1) = wi.map (·.1)) (hn : As.length = 2) (hsize : ls.size = nL) (hst : st0 = As.reverse ++ .ref b :: rest) (hrm : (rest.map fun v => v.category).sum ≤ 8) (hR : rm.frames + 1 ≤ R.frames ∧ 8 + (3 + 11) + rm.locals ≤ R.locals) (hf : cells + rm.cells ≤ R.cells ∧ slots + rm.slots ≤ R.slots) (hdg : decode cc pc = .ok (.invokevirtual 131, 3)) (kk : ∀ (u : S) (H1 : Heap) (locs1 : List Loc), φ u → va_P G.1 vwCl (ck_set ws is (wo u)) H1 → va_D A (ck_set ws is (wo u)) → va_S A s.heap H1 locs1 → W p l e R s m args below meth c H1 locs1 (cells + rm.cells) (slots + rm.slots) Q (F0 m (pc + 3) ls ((r u).toList ++ rest))) :
    W p l e R s m args below meth c H locs cells slots Q (F0 m pc ls st0) :=
  cq_V (T := TCK) (N := 9) ⟨hx, hb, hml, hown, hts⟩ hM ⟨callB_of 2 hts (ck_gd0 kcCK_putEntry) rfl rfl rfl (hts _ knCK) (hts _ kmCK_131) ⟨by decide, by decide, by decide +kernel⟩ hR, hts _ kiCK_putEntry, hts _ keCK_putEntry⟩ hG hA hP hD hS hq rfl is hC hnd ha hn hsize hst hrm hdg hf kk
theorem kcTr_findKey : Cond.code yTr_findKey cTr_findKey 4 none ∈ ckT := ck_m2 (List.mem_of_getElem? (i := 197) rfl) rfl
theorem kiTr_findKey : Cond.instanceMethod yTr_findKey ∈ ckT := ck_m2 (List.mem_of_getElem? (i := 195) rfl) rfl
theorem keTr_findKey : Cond.selects "CoverKeys$Tree" yTr_findKey yTr_findKey ∈ ckT := ck_m2 (List.mem_of_getElem? (i := 196) rfl) rfl
theorem kmCK_235 : Cond.methodLink "CoverKeys" 235 yTr_findKey ∈ ckT := ck_m2 (List.mem_of_getElem? (i := 194) rfl) rfl
theorem clCK_235 (hx : p.tables.exec = Jvm.exec) (hb : c.code = cc) (hml : c.maxLocals = nL) (hown : s.vm.findClass "CoverKeys" = some m.cls) (hts : ∀ w ∈ ckT, w.before args s = true) (hM : Cq l G yTr_findKey cTr_findKey 4 none rm (.ref b :: As) wi φ r wo) (hG : gk G A s s.heap) (hA : ∀ q : Nat, s.heap.size ≤ q → A q) (hP : va_P G.1 vwCl ws H) (hD : va_D A ws) (hS : va_S A s.heap H locs) (q0 : Nat) (hq : ws[q0]? = some (oC b 6 fs)) (is : List Nat) (hC : is.map (fun i => ws[i]?) = wi.map some) (hnd : va_nd is = true) (ha : ∀ u, (wo u).map (·.1) = wi.map (·.1)) (hn : As.length = 3) (hsize : ls.size = nL) (hst : st0 = As.reverse ++ .ref b :: rest) (hrm : (rest.map fun v => v.category).sum ≤ 8) (hR : rm.frames + 1 ≤ R.frames ∧ 8 + (4 + 11) + rm.locals ≤ R.locals) (hf : cells + rm.cells ≤ R.cells ∧ slots + rm.slots ≤ R.slots) (hdg : decode cc pc = .ok (.invokevirtual 235, 3)) (kk : ∀ (u : S) (H1 : Heap) (locs1 : List Loc), φ u → va_P G.1 vwCl (ck_set ws is (wo u)) H1 → va_D A (ck_set ws is (wo u)) → va_S A s.heap H1 locs1 → W p l e R s m args below meth c H1 locs1 (cells + rm.cells) (slots + rm.slots) Q (F0 m (pc + 3) ls ((r u).toList ++ rest))) :
    W p l e R s m args below meth c H locs cells slots Q (F0 m pc ls st0) :=
  cq_V (T := TTr) (N := 3) ⟨hx, hb, hml, hown, hts⟩ hM ⟨callB_of 3 hts (ck_gd0 kcTr_findKey) rfl rfl rfl (hts _ knTr) (hts _ kmCK_235) ⟨by decide, by decide, by decide +kernel⟩ hR, hts _ kiTr_findKey, hts _ keTr_findKey⟩ hG hA hP hD hS hq rfl is hC hnd ha hn hsize hst hrm hdg hf kk
theorem kmCK_173 : Cond.methodLink "CoverKeys" 173 yCi_setKey ∈ ckT := ck_m2 (List.mem_of_getElem? (i := 235) rfl) rfl
theorem clCK_173 (hx : p.tables.exec = Jvm.exec) (hb : c.code = cc) (hml : c.maxLocals = nL) (hown : s.vm.findClass "CoverKeys" = some m.cls) (hts : ∀ w ∈ ckT, w.before args s = true) (hM : Cq l G yCi_setKey cCi_setKey 9 none rm (.ref b :: As) wi φ r wo) (hG : gk G A s s.heap) (hA : ∀ q : Nat, s.heap.size ≤ q → A q) (hP : va_P G.1 vwCl ws H) (hD : va_D A ws) (hS : va_S A s.heap H locs) (q0 : Nat) (hq : ws[q0]? = some (oC b 1 fs)) (is : List Nat) (hC : is.map (fun i => ws[i]?) = wi.map some) (hnd : va_nd is = true) (ha : ∀ u, (wo u).map (·.1) = wi.map (·.1)) (hn : As.length = 2) (hsize : ls.size = nL) (hst : st0 = As.reverse ++ .ref b :: rest) (hrm : (rest.map fun v => v.category).sum ≤ 8) (hR : rm.frames + 1 ≤ R.frames ∧ 8 + (9 + 11) + rm.locals ≤ R.locals) (hf : cells + rm.cells ≤ R.cells ∧ slots + rm.slots ≤ R.slots) (hdg : decode cc pc = .ok (.invokevirtual 173, 3)) (kk : ∀ (u : S) (H1 : Heap) (locs1 : List Loc), φ u → va_P G.1 vwCl (ck_set ws is (wo u)) H1 → va_D A (ck_set ws is (wo u)) → va_S A s.heap H1 locs1 → W p l e R s m args below meth c H1 locs1 (cells + rm.cells) (slots + rm.slots) Q (F0 m (pc + 3) ls ((r u).toList ++ rest))) :
    W p l e R s m args below meth c H locs cells slots Q (F0 m pc ls st0) :=
  cq_V (T := TCi) (N := 3) ⟨hx, hb, hml, hown, hts⟩ hM ⟨callB_of 2 hts (ck_gd0 kcCi_setKey) rfl rfl rfl (hts _ knCi) (hts _ kmCK_173) ⟨by decide, by decide, by decide +kernel⟩ hR, hts _ kiCi_setKey, hts _ keCi_setKey⟩ hG hA hP hD hS hq rfl is hC hnd ha hn hsize hst hrm hdg hf kk
theorem kcEn_wrap : Cond.code yEn_wrap cEn_wrap 7 none ∈ ckT := ck_m2 (List.mem_of_getElem? (i := 239) rfl) rfl
theorem kiEn_wrap : Cond.instanceMethod yEn_wrap ∈ ckT := ck_m2 (List.mem_of_getElem? (i := 237) rfl) rfl
theorem keEn_wrap : Cond.selects "CoverKeys$Envelope" yEn_wrap yEn_wrap ∈ ckT := ck_m2 (List.mem_of_getElem? (i := 238) rfl) rfl
theorem kmCK_262 : Cond.methodLink "CoverKeys" 262 yEn_wrap ∈ ckT := ck_m2 (List.mem_of_getElem? (i := 236) rfl) rfl
theorem clCK_262 (hx : p.tables.exec = Jvm.exec) (hb : c.code = cc) (hml : c.maxLocals = nL) (hown : s.vm.findClass "CoverKeys" = some m.cls) (hts : ∀ w ∈ ckT, w.before args s = true) (hM : Cq l G yEn_wrap cEn_wrap 7 none rm (.ref b :: As) wi φ r wo) (hG : gk G A s s.heap) (hA : ∀ q : Nat, s.heap.size ≤ q → A q) (hP : va_P G.1 vwCl ws H) (hD : va_D A ws) (hS : va_S A s.heap H locs) (q0 : Nat) (hq : ws[q0]? = some (oC b 4 fs)) (is : List Nat) (hC : is.map (fun i => ws[i]?) = wi.map some) (hnd : va_nd is = true) (ha : ∀ u, (wo u).map (·.1) = wi.map (·.1)) (hn : As.length = 3) (hsize : ls.size = nL) (hst : st0 = As.reverse ++ .ref b :: rest) (hrm : (rest.map fun v => v.category).sum ≤ 8) (hR : rm.frames + 1 ≤ R.frames ∧ 8 + (7 + 11) + rm.locals ≤ R.locals) (hf : cells + rm.cells ≤ R.cells ∧ slots + rm.slots ≤ R.slots) (hdg : decode cc pc = .ok (.invokevirtual 262, 3)) (kk : ∀ (u : S) (H1 : Heap) (locs1 : List Loc), φ u → va_P G.1 vwCl (ck_set ws is (wo u)) H1 → va_D A (ck_set ws is (wo u)) → va_S A s.heap H1 locs1 → W p l e R s m args below meth c H1 locs1 (cells + rm.cells) (slots + rm.slots) Q (F0 m (pc + 3) ls ((r u).toList ++ rest))) :
    W p l e R s m args below meth c H locs cells slots Q (F0 m pc ls st0) :=
  cq_V (T := TEn) (N := 3) ⟨hx, hb, hml, hown, hts⟩ hM ⟨callB_of 3 hts (ck_gd0 kcEn_wrap) rfl rfl rfl (hts _ knEn) (hts _ kmCK_262) ⟨by decide, by decide, by decide +kernel⟩ hR, hts _ kiEn_wrap, hts _ keEn_wrap⟩ hG hA hP hD hS hq rfl is hC hnd ha hn hsize hst hrm hdg hf kk
theorem kcCK_checkByte : Cond.code yCK_checkByte cCK_checkByte 2 none ∈ ckT := ck_m3 (List.mem_of_getElem? (i := 16) rfl) rfl
theorem kiCK_checkByte : Cond.instanceMethod yCK_checkByte ∈ ckT := ck_m3 (List.mem_of_getElem? (i := 15) rfl) rfl
theorem keCK_checkByte : Cond.selects "CoverKeys" yCK_checkByte yCK_checkByte ∈ ckT := ck_ms (List.mem_of_getElem? (i := 8) rfl) rfl
theorem kmCK_138 : Cond.methodLink "CoverKeys" 138 yCK_checkByte ∈ ckT := ck_m3 (List.mem_of_getElem? (i := 13) rfl) rfl
theorem clCK_138 (hx : p.tables.exec = Jvm.exec) (hb : c.code = cc) (hml : c.maxLocals = nL) (hown : s.vm.findClass "CoverKeys" = some m.cls) (hts : ∀ w ∈ ckT, w.before args s = true) (hM : Cq l G yCK_checkByte cCK_checkByte 2 none rm (.ref b :: As) wi φ r wo) (hG : gk G A s s.heap) (hA : ∀ q : Nat, s.heap.size ≤ q → A q) (hP : va_P G.1 vwCl ws H) (hD : va_D A ws) (hS : va_S A s.heap H locs) (q0 : Nat) (hq : ws[q0]? = some (oC b 7 fs)) (is : List Nat) (hC : is.map (fun i => ws[i]?) = wi.map some) (hnd : va_nd is = true) (ha : ∀ u, (wo u).map (·.1) = wi.map (·.1)) (hn : As.length = 1) (hsize : ls.size = nL) (hst : st0 = As.reverse ++ .ref b :: rest) (hrm : (rest.map fun v => v.category).sum ≤ 8) (hR : rm.frames + 1 ≤ R.frames ∧ 8 + (2 + 11) + rm.locals ≤ R.locals) (hf : cells + rm.cells ≤ R.cells ∧ slots + rm.slots ≤ R.slots) (hdg : decode cc pc = .ok (.invokevirtual 138, 3)) (kk : ∀ (u : S) (H1 : Heap) (locs1 : List Loc), φ u → va_P G.1 vwCl (ck_set ws is (wo u)) H1 → va_D A (ck_set ws is (wo u)) → va_S A s.heap H1 locs1 → W p l e R s m args below meth c H1 locs1 (cells + rm.cells) (slots + rm.slots) Q (F0 m (pc + 3) ls ((r u).toList ++ rest))) :
    W p l e R s m args below meth c H locs cells slots Q (F0 m pc ls st0) :=
  cq_V (T := TCK) (N := 9) ⟨hx, hb, hml, hown, hts⟩ hM ⟨callB_of 1 hts (ck_gd0 kcCK_checkByte) rfl rfl rfl (hts _ knCK) (hts _ kmCK_138) ⟨by decide, by decide, by decide +kernel⟩ hR, hts _ kiCK_checkByte, hts _ keCK_checkByte⟩ hG hA hP hD hS hq rfl is hC hnd ha hn hsize hst hrm hdg hf kk
theorem kcPa_read : Cond.code yPa_read cPa_read 6 (some .long) ∈ ckT := ck_m3 (List.mem_of_getElem? (i := 36) rfl) rfl
theorem kiPa_read : Cond.instanceMethod yPa_read ∈ ckT := ck_m3 (List.mem_of_getElem? (i := 34) rfl) rfl
theorem kePa_read : Cond.selects "CoverKeys$Packet" yPa_read yPa_read ∈ ckT := ck_m3 (List.mem_of_getElem? (i := 35) rfl) rfl
theorem kmCK_147 : Cond.methodLink "CoverKeys" 147 yPa_read ∈ ckT := ck_m3 (List.mem_of_getElem? (i := 33) rfl) rfl
theorem clCK_147 (hx : p.tables.exec = Jvm.exec) (hb : c.code = cc) (hml : c.maxLocals = nL) (hown : s.vm.findClass "CoverKeys" = some m.cls) (hts : ∀ w ∈ ckT, w.before args s = true) (hM : Cq l G yPa_read cPa_read 6 (some .long) rm (.ref b :: As) wi φ r wo) (hG : gk G A s s.heap) (hA : ∀ q : Nat, s.heap.size ≤ q → A q) (hP : va_P G.1 vwCl ws H) (hD : va_D A ws) (hS : va_S A s.heap H locs) (q0 : Nat) (hq : ws[q0]? = some (oC b 5 fs)) (is : List Nat) (hC : is.map (fun i => ws[i]?) = wi.map some) (hnd : va_nd is = true) (ha : ∀ u, (wo u).map (·.1) = wi.map (·.1)) (hn : As.length = 2) (hsize : ls.size = nL) (hst : st0 = As.reverse ++ .ref b :: rest) (hrm : (rest.map fun v => v.category).sum ≤ 8) (hR : rm.frames + 1 ≤ R.frames ∧ 8 + (6 + 11) + rm.locals ≤ R.locals) (hf : cells + rm.cells ≤ R.cells ∧ slots + rm.slots ≤ R.slots) (hdg : decode cc pc = .ok (.invokevirtual 147, 3)) (kk : ∀ (u : S) (H1 : Heap) (locs1 : List Loc), φ u → va_P G.1 vwCl (ck_set ws is (wo u)) H1 → va_D A (ck_set ws is (wo u)) → va_S A s.heap H1 locs1 → W p l e R s m args below meth c H1 locs1 (cells + rm.cells) (slots + rm.slots) Q (F0 m (pc + 3) ls ((r u).toList ++ rest))) :
    W p l e R s m args below meth c H locs cells slots Q (F0 m pc ls st0) :=
  cq_V (T := TPa) (N := 2) ⟨hx, hb, hml, hown, hts⟩ hM ⟨callB_of 2 hts (ck_gd0 kcPa_read) rfl rfl rfl (hts _ knPa) (hts _ kmCK_147) ⟨by decide, by decide, by decide +kernel⟩ hR, hts _ kiPa_read, hts _ kePa_read⟩ hG hA hP hD hS hq rfl is hC hnd ha hn hsize hst hrm hdg hf kk
theorem kcTr_derives : Cond.code yTr_derives cTr_derives 5 (some .boolean) ∈ ckT := ck_m3 (List.mem_of_getElem? (i := 40) rfl) rfl
theorem kiTr_derives : Cond.instanceMethod yTr_derives ∈ ckT := ck_m3 (List.mem_of_getElem? (i := 38) rfl) rfl
theorem keTr_derives : Cond.selects "CoverKeys$Tree" yTr_derives yTr_derives ∈ ckT := ck_m3 (List.mem_of_getElem? (i := 39) rfl) rfl
theorem kmCK_151 : Cond.methodLink "CoverKeys" 151 yTr_derives ∈ ckT := ck_m3 (List.mem_of_getElem? (i := 37) rfl) rfl
theorem clCK_151 (hx : p.tables.exec = Jvm.exec) (hb : c.code = cc) (hml : c.maxLocals = nL) (hown : s.vm.findClass "CoverKeys" = some m.cls) (hts : ∀ w ∈ ckT, w.before args s = true) (hM : Cq l G yTr_derives cTr_derives 5 (some .boolean) rm (.ref b :: As) wi φ r wo) (hG : gk G A s s.heap) (hA : ∀ q : Nat, s.heap.size ≤ q → A q) (hP : va_P G.1 vwCl ws H) (hD : va_D A ws) (hS : va_S A s.heap H locs) (q0 : Nat) (hq : ws[q0]? = some (oC b 6 fs)) (is : List Nat) (hC : is.map (fun i => ws[i]?) = wi.map some) (hnd : va_nd is = true) (ha : ∀ u, (wo u).map (·.1) = wi.map (·.1)) (hn : As.length = 3) (hsize : ls.size = nL) (hst : st0 = As.reverse ++ .ref b :: rest) (hrm : (rest.map fun v => v.category).sum ≤ 8) (hR : rm.frames + 1 ≤ R.frames ∧ 8 + (5 + 11) + rm.locals ≤ R.locals) (hf : cells + rm.cells ≤ R.cells ∧ slots + rm.slots ≤ R.slots) (hdg : decode cc pc = .ok (.invokevirtual 151, 3)) (kk : ∀ (u : S) (H1 : Heap) (locs1 : List Loc), φ u → va_P G.1 vwCl (ck_set ws is (wo u)) H1 → va_D A (ck_set ws is (wo u)) → va_S A s.heap H1 locs1 → W p l e R s m args below meth c H1 locs1 (cells + rm.cells) (slots + rm.slots) Q (F0 m (pc + 3) ls ((r u).toList ++ rest))) :
    W p l e R s m args below meth c H locs cells slots Q (F0 m pc ls st0) :=
  cq_V (T := TTr) (N := 3) ⟨hx, hb, hml, hown, hts⟩ hM ⟨callB_of 3 hts (ck_gd0 kcTr_derives) rfl rfl rfl (hts _ knTr) (hts _ kmCK_151) ⟨by decide, by decide, by decide +kernel⟩ hR, hts _ kiTr_derives, hts _ keTr_derives⟩ hG hA hP hD hS hq rfl is hC hnd ha hn hsize hst hrm hdg hf kk
theorem kcCK_unwrapEntry : Cond.code yCK_unwrapEntry cCK_unwrapEntry 4 (some .boolean) ∈ ckT := ck_m3 (List.mem_of_getElem? (i := 49) rfl) rfl
theorem kiCK_unwrapEntry : Cond.instanceMethod yCK_unwrapEntry ∈ ckT := ck_m3 (List.mem_of_getElem? (i := 48) rfl) rfl
theorem keCK_unwrapEntry : Cond.selects "CoverKeys" yCK_unwrapEntry yCK_unwrapEntry ∈ ckT := ck_ms (List.mem_of_getElem? (i := 9) rfl) rfl
theorem kmCK_155 : Cond.methodLink "CoverKeys" 155 yCK_unwrapEntry ∈ ckT := ck_m3 (List.mem_of_getElem? (i := 46) rfl) rfl
theorem clCK_155 (hx : p.tables.exec = Jvm.exec) (hb : c.code = cc) (hml : c.maxLocals = nL) (hown : s.vm.findClass "CoverKeys" = some m.cls) (hts : ∀ w ∈ ckT, w.before args s = true) (hM : Cq l G yCK_unwrapEntry cCK_unwrapEntry 4 (some .boolean) rm (.ref b :: As) wi φ r wo) (hG : gk G A s s.heap) (hA : ∀ q : Nat, s.heap.size ≤ q → A q) (hP : va_P G.1 vwCl ws H) (hD : va_D A ws) (hS : va_S A s.heap H locs) (q0 : Nat) (hq : ws[q0]? = some (oC b 7 fs)) (is : List Nat) (hC : is.map (fun i => ws[i]?) = wi.map some) (hnd : va_nd is = true) (ha : ∀ u, (wo u).map (·.1) = wi.map (·.1)) (hn : As.length = 3) (hsize : ls.size = nL) (hst : st0 = As.reverse ++ .ref b :: rest) (hrm : (rest.map fun v => v.category).sum ≤ 8) (hR : rm.frames + 1 ≤ R.frames ∧ 8 + (4 + 11) + rm.locals ≤ R.locals) (hf : cells + rm.cells ≤ R.cells ∧ slots + rm.slots ≤ R.slots) (hdg : decode cc pc = .ok (.invokevirtual 155, 3)) (kk : ∀ (u : S) (H1 : Heap) (locs1 : List Loc), φ u → va_P G.1 vwCl (ck_set ws is (wo u)) H1 → va_D A (ck_set ws is (wo u)) → va_S A s.heap H1 locs1 → W p l e R s m args below meth c H1 locs1 (cells + rm.cells) (slots + rm.slots) Q (F0 m (pc + 3) ls ((r u).toList ++ rest))) :
    W p l e R s m args below meth c H locs cells slots Q (F0 m pc ls st0) :=
  cq_V (T := TCK) (N := 9) ⟨hx, hb, hml, hown, hts⟩ hM ⟨callB_of 3 hts (ck_gd0 kcCK_unwrapEntry) rfl rfl rfl (hts _ knCK) (hts _ kmCK_155) ⟨by decide, by decide, by decide +kernel⟩ hR, hts _ kiCK_unwrapEntry, hts _ keCK_unwrapEntry⟩ hG hA hP hD hS hq rfl is hC hnd ha hn hsize hst hrm hdg hf kk
theorem kcEn_unwrap : Cond.code yEn_unwrap cEn_unwrap 3 (some .boolean) ∈ ckT := ck_m3 (List.mem_of_getElem? (i := 53) rfl) rfl
theorem kiEn_unwrap : Cond.instanceMethod yEn_unwrap ∈ ckT := ck_m3 (List.mem_of_getElem? (i := 51) rfl) rfl
theorem keEn_unwrap : Cond.selects "CoverKeys$Envelope" yEn_unwrap yEn_unwrap ∈ ckT := ck_m3 (List.mem_of_getElem? (i := 52) rfl) rfl
theorem kmCK_269 : Cond.methodLink "CoverKeys" 269 yEn_unwrap ∈ ckT := ck_m3 (List.mem_of_getElem? (i := 50) rfl) rfl
theorem clCK_269 (hx : p.tables.exec = Jvm.exec) (hb : c.code = cc) (hml : c.maxLocals = nL) (hown : s.vm.findClass "CoverKeys" = some m.cls) (hts : ∀ w ∈ ckT, w.before args s = true) (hM : Cq l G yEn_unwrap cEn_unwrap 3 (some .boolean) rm (.ref b :: As) wi φ r wo) (hG : gk G A s s.heap) (hA : ∀ q : Nat, s.heap.size ≤ q → A q) (hP : va_P G.1 vwCl ws H) (hD : va_D A ws) (hS : va_S A s.heap H locs) (q0 : Nat) (hq : ws[q0]? = some (oC b 4 fs)) (is : List Nat) (hC : is.map (fun i => ws[i]?) = wi.map some) (hnd : va_nd is = true) (ha : ∀ u, (wo u).map (·.1) = wi.map (·.1)) (hn : As.length = 1) (hsize : ls.size = nL) (hst : st0 = As.reverse ++ .ref b :: rest) (hrm : (rest.map fun v => v.category).sum ≤ 8) (hR : rm.frames + 1 ≤ R.frames ∧ 8 + (3 + 11) + rm.locals ≤ R.locals) (hf : cells + rm.cells ≤ R.cells ∧ slots + rm.slots ≤ R.slots) (hdg : decode cc pc = .ok (.invokevirtual 269, 3)) (kk : ∀ (u : S) (H1 : Heap) (locs1 : List Loc), φ u → va_P G.1 vwCl (ck_set ws is (wo u)) H1 → va_D A (ck_set ws is (wo u)) → va_S A s.heap H1 locs1 → W p l e R s m args below meth c H1 locs1 (cells + rm.cells) (slots + rm.slots) Q (F0 m (pc + 3) ls ((r u).toList ++ rest))) :
    W p l e R s m args below meth c H locs cells slots Q (F0 m pc ls st0) :=
  cq_V (T := TEn) (N := 3) ⟨hx, hb, hml, hown, hts⟩ hM ⟨callB_of 1 hts (ck_gd0 kcEn_unwrap) rfl rfl rfl (hts _ knEn) (hts _ kmCK_269) ⟨by decide, by decide, by decide +kernel⟩ hR, hts _ kiEn_unwrap, hts _ keEn_unwrap⟩ hG hA hP hD hS hq rfl is hC hnd ha hn hsize hst hrm hdg hf kk
theorem kcDe_keep : Cond.code yDe_keep cDe_keep 7 none ∈ ckT := ck_m3 (List.mem_of_getElem? (i := 66) rfl) rfl
theorem kiDe_keep : Cond.instanceMethod yDe_keep ∈ ckT := ck_m3 (List.mem_of_getElem? (i := 64) rfl) rfl
theorem keDe_keep : Cond.selects "CoverKeys$Decoder" yDe_keep yDe_keep ∈ ckT := ck_m3 (List.mem_of_getElem? (i := 65) rfl) rfl
theorem knDe : Cond.initialized "CoverKeys$Decoder" ∈ ckT := ck_m1 (List.mem_of_getElem? (i := 15) rfl) rfl
theorem kmCK_165 : Cond.methodLink "CoverKeys" 165 yDe_keep ∈ ckT := ck_m3 (List.mem_of_getElem? (i := 63) rfl) rfl
theorem clCK_165 (hx : p.tables.exec = Jvm.exec) (hb : c.code = cc) (hml : c.maxLocals = nL) (hown : s.vm.findClass "CoverKeys" = some m.cls) (hts : ∀ w ∈ ckT, w.before args s = true) (hM : Cq l G yDe_keep cDe_keep 7 none rm (.ref b :: As) wi φ r wo) (hG : gk G A s s.heap) (hA : ∀ q : Nat, s.heap.size ≤ q → A q) (hP : va_P G.1 vwCl ws H) (hD : va_D A ws) (hS : va_S A s.heap H locs) (q0 : Nat) (hq : ws[q0]? = some (oC b 3 fs)) (is : List Nat) (hC : is.map (fun i => ws[i]?) = wi.map some) (hnd : va_nd is = true) (ha : ∀ u, (wo u).map (·.1) = wi.map (·.1)) (hn : As.length = 4) (hsize : ls.size = nL) (hst : st0 = As.reverse ++ .ref b :: rest) (hrm : (rest.map fun v => v.category).sum ≤ 8) (hR : rm.frames + 1 ≤ R.frames ∧ 8 + (7 + 11) + rm.locals ≤ R.locals) (hf : cells + rm.cells ≤ R.cells ∧ slots + rm.slots ≤ R.slots) (hdg : decode cc pc = .ok (.invokevirtual 165, 3)) (kk : ∀ (u : S) (H1 : Heap) (locs1 : List Loc), φ u → va_P G.1 vwCl (ck_set ws is (wo u)) H1 → va_D A (ck_set ws is (wo u)) → va_S A s.heap H1 locs1 → W p l e R s m args below meth c H1 locs1 (cells + rm.cells) (slots + rm.slots) Q (F0 m (pc + 3) ls ((r u).toList ++ rest))) :
    W p l e R s m args below meth c H locs cells slots Q (F0 m pc ls st0) :=
  cq_V (T := TDe) (N := 3) ⟨hx, hb, hml, hown, hts⟩ hM ⟨callB_of 4 hts (ck_gd0 kcDe_keep) rfl rfl rfl (hts _ knDe) (hts _ kmCK_165) ⟨by decide, by decide, by decide +kernel⟩ hR, hts _ kiDe_keep, hts _ keDe_keep⟩ hG hA hP hD hS hq rfl is hC hnd ha hn hsize hst hrm hdg hf kk
theorem kcCK_maskBlock : Cond.code yCK_maskBlock cCK_maskBlock 9 none ∈ ckT := ck_m3 (List.mem_of_getElem? (i := 84) rfl) rfl
theorem kiCK_maskBlock : Cond.instanceMethod yCK_maskBlock ∈ ckT := ck_m3 (List.mem_of_getElem? (i := 83) rfl) rfl
theorem keCK_maskBlock : Cond.selects "CoverKeys" yCK_maskBlock yCK_maskBlock ∈ ckT := ck_ms (List.mem_of_getElem? (i := 10) rfl) rfl
theorem kmCK_176 : Cond.methodLink "CoverKeys" 176 yCK_maskBlock ∈ ckT := ck_m3 (List.mem_of_getElem? (i := 81) rfl) rfl
theorem clCK_176 (hx : p.tables.exec = Jvm.exec) (hb : c.code = cc) (hml : c.maxLocals = nL) (hown : s.vm.findClass "CoverKeys" = some m.cls) (hts : ∀ w ∈ ckT, w.before args s = true) (hM : Cq l G yCK_maskBlock cCK_maskBlock 9 none rm (.ref b :: As) wi φ r wo) (hG : gk G A s s.heap) (hA : ∀ q : Nat, s.heap.size ≤ q → A q) (hP : va_P G.1 vwCl ws H) (hD : va_D A ws) (hS : va_S A s.heap H locs) (q0 : Nat) (hq : ws[q0]? = some (oC b 7 fs)) (is : List Nat) (hC : is.map (fun i => ws[i]?) = wi.map some) (hnd : va_nd is = true) (ha : ∀ u, (wo u).map (·.1) = wi.map (·.1)) (hn : As.length = 5) (hsize : ls.size = nL) (hst : st0 = As.reverse ++ .ref b :: rest) (hrm : (rest.map fun v => v.category).sum ≤ 8) (hR : rm.frames + 1 ≤ R.frames ∧ 8 + (9 + 11) + rm.locals ≤ R.locals) (hf : cells + rm.cells ≤ R.cells ∧ slots + rm.slots ≤ R.slots) (hdg : decode cc pc = .ok (.invokevirtual 176, 3)) (kk : ∀ (u : S) (H1 : Heap) (locs1 : List Loc), φ u → va_P G.1 vwCl (ck_set ws is (wo u)) H1 → va_D A (ck_set ws is (wo u)) → va_S A s.heap H1 locs1 → W p l e R s m args below meth c H1 locs1 (cells + rm.cells) (slots + rm.slots) Q (F0 m (pc + 3) ls ((r u).toList ++ rest))) :
    W p l e R s m args below meth c H locs cells slots Q (F0 m pc ls st0) :=
  cq_V (T := TCK) (N := 9) ⟨hx, hb, hml, hown, hts⟩ hM ⟨callB_of 5 hts (ck_gd0 kcCK_maskBlock) rfl rfl rfl (hts _ knCK) (hts _ kmCK_176) ⟨by decide, by decide, by decide +kernel⟩ hR, hts _ kiCK_maskBlock, hts _ keCK_maskBlock⟩ hG hA hP hD hS hq rfl is hC hnd ha hn hsize hst hrm hdg hf kk
theorem kmCK_275 : Cond.methodLink "CoverKeys" 275 yCi_encrypt ∈ ckT := ck_m3 (List.mem_of_getElem? (i := 86) rfl) rfl
theorem clCK_275 (hx : p.tables.exec = Jvm.exec) (hb : c.code = cc) (hml : c.maxLocals = nL) (hown : s.vm.findClass "CoverKeys" = some m.cls) (hts : ∀ w ∈ ckT, w.before args s = true) (hM : Cq l G yCi_encrypt cCi_encrypt 15 none rm (.ref b :: As) wi φ r wo) (hG : gk G A s s.heap) (hA : ∀ q : Nat, s.heap.size ≤ q → A q) (hP : va_P G.1 vwCl ws H) (hD : va_D A ws) (hS : va_S A s.heap H locs) (q0 : Nat) (hq : ws[q0]? = some (oC b 1 fs)) (is : List Nat) (hC : is.map (fun i => ws[i]?) = wi.map some) (hnd : va_nd is = true) (ha : ∀ u, (wo u).map (·.1) = wi.map (·.1)) (hn : As.length = 2) (hsize : ls.size = nL) (hst : st0 = As.reverse ++ .ref b :: rest) (hrm : (rest.map fun v => v.category).sum ≤ 8) (hR : rm.frames + 1 ≤ R.frames ∧ 8 + (15 + 11) + rm.locals ≤ R.locals) (hf : cells + rm.cells ≤ R.cells ∧ slots + rm.slots ≤ R.slots) (hdg : decode cc pc = .ok (.invokevirtual 275, 3)) (kk : ∀ (u : S) (H1 : Heap) (locs1 : List Loc), φ u → va_P G.1 vwCl (ck_set ws is (wo u)) H1 → va_D A (ck_set ws is (wo u)) → va_S A s.heap H1 locs1 → W p l e R s m args below meth c H1 locs1 (cells + rm.cells) (slots + rm.slots) Q (F0 m (pc + 3) ls ((r u).toList ++ rest))) :
    W p l e R s m args below meth c H locs cells slots Q (F0 m pc ls st0) :=
  cq_V (T := TCi) (N := 3) ⟨hx, hb, hml, hown, hts⟩ hM ⟨callB_of 2 hts (ck_gd0 kcCi_encrypt) rfl rfl rfl (hts _ knCi) (hts _ kmCK_275) ⟨by decide, by decide, by decide +kernel⟩ hR, hts _ kiCi_encrypt, hts _ keCi_encrypt⟩ hG hA hP hD hS hq rfl is hC hnd ha hn hsize hst hrm hdg hf kk
theorem kcCK_checkInstalled : Cond.code yCK_checkInstalled cCK_checkInstalled 2 none ∈ ckT := ck_m3 (List.mem_of_getElem? (i := 114) rfl) rfl
theorem kiCK_checkInstalled : Cond.instanceMethod yCK_checkInstalled ∈ ckT := ck_m3 (List.mem_of_getElem? (i := 113) rfl) rfl
theorem keCK_checkInstalled : Cond.selects "CoverKeys" yCK_checkInstalled yCK_checkInstalled ∈ ckT := ck_ms (List.mem_of_getElem? (i := 11) rfl) rfl
theorem kmCK_212 : Cond.methodLink "CoverKeys" 212 yCK_checkInstalled ∈ ckT := ck_m3 (List.mem_of_getElem? (i := 111) rfl) rfl
theorem clCK_212 (hx : p.tables.exec = Jvm.exec) (hb : c.code = cc) (hml : c.maxLocals = nL) (hown : s.vm.findClass "CoverKeys" = some m.cls) (hts : ∀ w ∈ ckT, w.before args s = true) (hM : Cq l G yCK_checkInstalled cCK_checkInstalled 2 none rm (.ref b :: As) wi φ r wo) (hG : gk G A s s.heap) (hA : ∀ q : Nat, s.heap.size ≤ q → A q) (hP : va_P G.1 vwCl ws H) (hD : va_D A ws) (hS : va_S A s.heap H locs) (q0 : Nat) (hq : ws[q0]? = some (oC b 7 fs)) (is : List Nat) (hC : is.map (fun i => ws[i]?) = wi.map some) (hnd : va_nd is = true) (ha : ∀ u, (wo u).map (·.1) = wi.map (·.1)) (hn : As.length = 1) (hsize : ls.size = nL) (hst : st0 = As.reverse ++ .ref b :: rest) (hrm : (rest.map fun v => v.category).sum ≤ 8) (hR : rm.frames + 1 ≤ R.frames ∧ 8 + (2 + 11) + rm.locals ≤ R.locals) (hf : cells + rm.cells ≤ R.cells ∧ slots + rm.slots ≤ R.slots) (hdg : decode cc pc = .ok (.invokevirtual 212, 3)) (kk : ∀ (u : S) (H1 : Heap) (locs1 : List Loc), φ u → va_P G.1 vwCl (ck_set ws is (wo u)) H1 → va_D A (ck_set ws is (wo u)) → va_S A s.heap H1 locs1 → W p l e R s m args below meth c H1 locs1 (cells + rm.cells) (slots + rm.slots) Q (F0 m (pc + 3) ls ((r u).toList ++ rest))) :
    W p l e R s m args below meth c H locs cells slots Q (F0 m pc ls st0) :=
  cq_V (T := TCK) (N := 9) ⟨hx, hb, hml, hown, hts⟩ hM ⟨callB_of 1 hts (ck_gd0 kcCK_checkInstalled) rfl rfl rfl (hts _ knCK) (hts _ kmCK_212) ⟨by decide, by decide, by decide +kernel⟩ hR, hts _ kiCK_checkInstalled, hts _ keCK_checkInstalled⟩ hG hA hP hD hS hq rfl is hC hnd ha hn hsize hst hrm hdg hf kk
theorem kcTr_labelTop : Cond.code yTr_labelTop cTr_labelTop 3 (some .int) ∈ ckT := ck_m3 (List.mem_of_getElem? (i := 120) rfl) rfl
theorem kiTr_labelTop : Cond.instanceMethod yTr_labelTop ∈ ckT := ck_m3 (List.mem_of_getElem? (i := 118) rfl) rfl
theorem keTr_labelTop : Cond.selects "CoverKeys$Tree" yTr_labelTop yTr_labelTop ∈ ckT := ck_m3 (List.mem_of_getElem? (i := 119) rfl) rfl
theorem kmCK_217 : Cond.methodLink "CoverKeys" 217 yTr_labelTop ∈ ckT := ck_m3 (List.mem_of_getElem? (i := 117) rfl) rfl
theorem clCK_217 (hx : p.tables.exec = Jvm.exec) (hb : c.code = cc) (hml : c.maxLocals = nL) (hown : s.vm.findClass "CoverKeys" = some m.cls) (hts : ∀ w ∈ ckT, w.before args s = true) (hM : Cq l G yTr_labelTop cTr_labelTop 3 (some .int) rm (.ref b :: As) wi φ r wo) (hG : gk G A s s.heap) (hA : ∀ q : Nat, s.heap.size ≤ q → A q) (hP : va_P G.1 vwCl ws H) (hD : va_D A ws) (hS : va_S A s.heap H locs) (q0 : Nat) (hq : ws[q0]? = some (oC b 6 fs)) (is : List Nat) (hC : is.map (fun i => ws[i]?) = wi.map some) (hnd : va_nd is = true) (ha : ∀ u, (wo u).map (·.1) = wi.map (·.1)) (hn : As.length = 2) (hsize : ls.size = nL) (hst : st0 = As.reverse ++ .ref b :: rest) (hrm : (rest.map fun v => v.category).sum ≤ 8) (hR : rm.frames + 1 ≤ R.frames ∧ 8 + (3 + 11) + rm.locals ≤ R.locals) (hf : cells + rm.cells ≤ R.cells ∧ slots + rm.slots ≤ R.slots) (hdg : decode cc pc = .ok (.invokevirtual 217, 3)) (kk : ∀ (u : S) (H1 : Heap) (locs1 : List Loc), φ u → va_P G.1 vwCl (ck_set ws is (wo u)) H1 → va_D A (ck_set ws is (wo u)) → va_S A s.heap H1 locs1 → W p l e R s m args below meth c H1 locs1 (cells + rm.cells) (slots + rm.slots) Q (F0 m (pc + 3) ls ((r u).toList ++ rest))) :
    W p l e R s m args below meth c H locs cells slots Q (F0 m pc ls st0) :=
  cq_V (T := TTr) (N := 3) ⟨hx, hb, hml, hown, hts⟩ hM ⟨callB_of 2 hts (ck_gd0 kcTr_labelTop) rfl rfl rfl (hts _ knTr) (hts _ kmCK_217) ⟨by decide, by decide, by decide +kernel⟩ hR, hts _ kiTr_labelTop, hts _ keTr_labelTop⟩ hG hA hP hD hS hq rfl is hC hnd ha hn hsize hst hrm hdg hf kk
theorem kcTr_labelFoot : Cond.code yTr_labelFoot cTr_labelFoot 5 (some .int) ∈ ckT := ck_m3 (List.mem_of_getElem? (i := 132) rfl) rfl
theorem kiTr_labelFoot : Cond.instanceMethod yTr_labelFoot ∈ ckT := ck_m3 (List.mem_of_getElem? (i := 130) rfl) rfl
theorem keTr_labelFoot : Cond.selects "CoverKeys$Tree" yTr_labelFoot yTr_labelFoot ∈ ckT := ck_m3 (List.mem_of_getElem? (i := 131) rfl) rfl
theorem kmCK_220 : Cond.methodLink "CoverKeys" 220 yTr_labelFoot ∈ ckT := ck_m3 (List.mem_of_getElem? (i := 129) rfl) rfl
theorem clCK_220 (hx : p.tables.exec = Jvm.exec) (hb : c.code = cc) (hml : c.maxLocals = nL) (hown : s.vm.findClass "CoverKeys" = some m.cls) (hts : ∀ w ∈ ckT, w.before args s = true) (hM : Cq l G yTr_labelFoot cTr_labelFoot 5 (some .int) rm (.ref b :: As) wi φ r wo) (hG : gk G A s s.heap) (hA : ∀ q : Nat, s.heap.size ≤ q → A q) (hP : va_P G.1 vwCl ws H) (hD : va_D A ws) (hS : va_S A s.heap H locs) (q0 : Nat) (hq : ws[q0]? = some (oC b 6 fs)) (is : List Nat) (hC : is.map (fun i => ws[i]?) = wi.map some) (hnd : va_nd is = true) (ha : ∀ u, (wo u).map (·.1) = wi.map (·.1)) (hn : As.length = 2) (hsize : ls.size = nL) (hst : st0 = As.reverse ++ .ref b :: rest) (hrm : (rest.map fun v => v.category).sum ≤ 8) (hR : rm.frames + 1 ≤ R.frames ∧ 8 + (5 + 11) + rm.locals ≤ R.locals) (hf : cells + rm.cells ≤ R.cells ∧ slots + rm.slots ≤ R.slots) (hdg : decode cc pc = .ok (.invokevirtual 220, 3)) (kk : ∀ (u : S) (H1 : Heap) (locs1 : List Loc), φ u → va_P G.1 vwCl (ck_set ws is (wo u)) H1 → va_D A (ck_set ws is (wo u)) → va_S A s.heap H1 locs1 → W p l e R s m args below meth c H1 locs1 (cells + rm.cells) (slots + rm.slots) Q (F0 m (pc + 3) ls ((r u).toList ++ rest))) :
    W p l e R s m args below meth c H locs cells slots Q (F0 m pc ls st0) :=
  cq_V (T := TTr) (N := 3) ⟨hx, hb, hml, hown, hts⟩ hM ⟨callB_of 2 hts (ck_gd0 kcTr_labelFoot) rfl rfl rfl (hts _ knTr) (hts _ kmCK_220) ⟨by decide, by decide, by decide +kernel⟩ hR, hts _ kiTr_labelFoot, hts _ keTr_labelFoot⟩ hG hA hP hD hS hq rfl is hC hnd ha hn hsize hst hrm hdg hf kk
theorem kmCK_223 : Cond.methodLink "CoverKeys" 223 yTr_findLabel ∈ ckT := ck_m3 (List.mem_of_getElem? (i := 133) rfl) rfl
theorem clCK_223 (hx : p.tables.exec = Jvm.exec) (hb : c.code = cc) (hml : c.maxLocals = nL) (hown : s.vm.findClass "CoverKeys" = some m.cls) (hts : ∀ w ∈ ckT, w.before args s = true) (hM : Cq l G yTr_findLabel cTr_findLabel 5 none rm (.ref b :: As) wi φ r wo) (hG : gk G A s s.heap) (hA : ∀ q : Nat, s.heap.size ≤ q → A q) (hP : va_P G.1 vwCl ws H) (hD : va_D A ws) (hS : va_S A s.heap H locs) (q0 : Nat) (hq : ws[q0]? = some (oC b 6 fs)) (is : List Nat) (hC : is.map (fun i => ws[i]?) = wi.map some) (hnd : va_nd is = true) (ha : ∀ u, (wo u).map (·.1) = wi.map (·.1)) (hn : As.length = 3) (hsize : ls.size = nL) (hst : st0 = As.reverse ++ .ref b :: rest) (hrm : (rest.map fun v => v.category).sum ≤ 8) (hR : rm.frames + 1 ≤ R.frames ∧ 8 + (5 + 11) + rm.locals ≤ R.locals) (hf : cells + rm.cells ≤ R.cells ∧ slots + rm.slots ≤ R.slots) (hdg : decode cc pc = .ok (.invokevirtual 223, 3)) (kk : ∀ (u : S) (H1 : Heap) (locs1 : List Loc), φ u → va_P G.1 vwCl (ck_set ws is (wo u)) H1 → va_D A (ck_set ws is (wo u)) → va_S A s.heap H1 locs1 → W p l e R s m args below meth c H1 locs1 (cells + rm.cells) (slots + rm.slots) Q (F0 m (pc + 3) ls ((r u).toList ++ rest))) :
    W p l e R s m args below meth c H locs cells slots Q (F0 m pc ls st0) :=
  cq_V (T := TTr) (N := 3) ⟨hx, hb, hml, hown, hts⟩ hM ⟨callB_of 3 hts (ck_gd0 kcTr_findLabel) rfl rfl rfl (hts _ knTr) (hts _ kmCK_223) ⟨by decide, by decide, by decide +kernel⟩ hR, hts _ kiTr_findLabel, hts _ keTr_findLabel⟩ hG hA hP hD hS hq rfl is hC hnd ha hn hsize hst hrm hdg hf kk
theorem kmCK_229 : Cond.methodLink "CoverKeys" 229 yTr_isSubset ∈ ckT := ck_m3 (List.mem_of_getElem? (i := 148) rfl) rfl
theorem clCK_229 (hx : p.tables.exec = Jvm.exec) (hb : c.code = cc) (hml : c.maxLocals = nL) (hown : s.vm.findClass "CoverKeys" = some m.cls) (hts : ∀ w ∈ ckT, w.before args s = true) (hM : Cq l G yTr_isSubset cTr_isSubset 3 (some .boolean) rm (.ref b :: As) wi φ r wo) (hG : gk G A s s.heap) (hA : ∀ q : Nat, s.heap.size ≤ q → A q) (hP : va_P G.1 vwCl ws H) (hD : va_D A ws) (hS : va_S A s.heap H locs) (q0 : Nat) (hq : ws[q0]? = some (oC b 6 fs)) (is : List Nat) (hC : is.map (fun i => ws[i]?) = wi.map some) (hnd : va_nd is = true) (ha : ∀ u, (wo u).map (·.1) = wi.map (·.1)) (hn : As.length = 2) (hsize : ls.size = nL) (hst : st0 = As.reverse ++ .ref b :: rest) (hrm : (rest.map fun v => v.category).sum ≤ 8) (hR : rm.frames + 1 ≤ R.frames ∧ 8 + (3 + 11) + rm.locals ≤ R.locals) (hf : cells + rm.cells ≤ R.cells ∧ slots + rm.slots ≤ R.slots) (hdg : decode cc pc = .ok (.invokevirtual 229, 3)) (kk : ∀ (u : S) (H1 : Heap) (locs1 : List Loc), φ u → va_P G.1 vwCl (ck_set ws is (wo u)) H1 → va_D A (ck_set ws is (wo u)) → va_S A s.heap H1 locs1 → W p l e R s m args below meth c H1 locs1 (cells + rm.cells) (slots + rm.slots) Q (F0 m (pc + 3) ls ((r u).toList ++ rest))) :
    W p l e R s m args below meth c H locs cells slots Q (F0 m pc ls st0) :=
  cq_V (T := TTr) (N := 3) ⟨hx, hb, hml, hown, hts⟩ hM ⟨callB_of 2 hts (ck_gd0 kcTr_isSubset) rfl rfl rfl (hts _ knTr) (hts _ kmCK_229) ⟨by decide, by decide, by decide +kernel⟩ hR, hts _ kiTr_isSubset, hts _ keTr_isSubset⟩ hG hA hP hD hS hq rfl is hC hnd ha hn hsize hst hrm hdg hf kk
theorem kcCK_installedDecoders : Cond.code yCK_installedDecoders cCK_installedDecoders 3 (some .int) ∈ ckT := ck_m3 (List.mem_of_getElem? (i := 161) rfl) rfl
theorem kiCK_installedDecoders : Cond.instanceMethod yCK_installedDecoders ∈ ckT := ck_m3 (List.mem_of_getElem? (i := 160) rfl) rfl
theorem keCK_installedDecoders : Cond.selects "CoverKeys" yCK_installedDecoders yCK_installedDecoders ∈ ckT := ck_ms (List.mem_of_getElem? (i := 14) rfl) rfl
theorem kmCK_243 : Cond.methodLink "CoverKeys" 243 yCK_installedDecoders ∈ ckT := ck_m3 (List.mem_of_getElem? (i := 158) rfl) rfl
theorem clCK_243 (hx : p.tables.exec = Jvm.exec) (hb : c.code = cc) (hml : c.maxLocals = nL) (hown : s.vm.findClass "CoverKeys" = some m.cls) (hts : ∀ w ∈ ckT, w.before args s = true) (hM : Cq l G yCK_installedDecoders cCK_installedDecoders 3 (some .int) rm (.ref b :: As) wi φ r wo) (hG : gk G A s s.heap) (hA : ∀ q : Nat, s.heap.size ≤ q → A q) (hP : va_P G.1 vwCl ws H) (hD : va_D A ws) (hS : va_S A s.heap H locs) (q0 : Nat) (hq : ws[q0]? = some (oC b 7 fs)) (is : List Nat) (hC : is.map (fun i => ws[i]?) = wi.map some) (hnd : va_nd is = true) (ha : ∀ u, (wo u).map (·.1) = wi.map (·.1)) (hn : As.length = 0) (hsize : ls.size = nL) (hst : st0 = As.reverse ++ .ref b :: rest) (hrm : (rest.map fun v => v.category).sum ≤ 8) (hR : rm.frames + 1 ≤ R.frames ∧ 8 + (3 + 11) + rm.locals ≤ R.locals) (hf : cells + rm.cells ≤ R.cells ∧ slots + rm.slots ≤ R.slots) (hdg : decode cc pc = .ok (.invokevirtual 243, 3)) (kk : ∀ (u : S) (H1 : Heap) (locs1 : List Loc), φ u → va_P G.1 vwCl (ck_set ws is (wo u)) H1 → va_D A (ck_set ws is (wo u)) → va_S A s.heap H1 locs1 → W p l e R s m args below meth c H1 locs1 (cells + rm.cells) (slots + rm.slots) Q (F0 m (pc + 3) ls ((r u).toList ++ rest))) :
    W p l e R s m args below meth c H locs cells slots Q (F0 m pc ls st0) :=
  cq_V (T := TCK) (N := 9) ⟨hx, hb, hml, hown, hts⟩ hM ⟨callB_of 0 hts (ck_gd0 kcCK_installedDecoders) rfl rfl rfl (hts _ knCK) (hts _ kmCK_243) ⟨by decide, by decide, by decide +kernel⟩ hR, hts _ kiCK_installedDecoders, hts _ keCK_installedDecoders⟩ hG hA hP hD hS hq rfl is hC hnd ha hn hsize hst hrm hdg hf kk
theorem kcCK_subscribersOfAll : Cond.code yCK_subscribersOfAll cCK_subscribersOfAll 4 (some .int) ∈ ckT := ck_m3 (List.mem_of_getElem? (i := 165) rfl) rfl
theorem kiCK_subscribersOfAll : Cond.instanceMethod yCK_subscribersOfAll ∈ ckT := ck_m3 (List.mem_of_getElem? (i := 164) rfl) rfl
theorem keCK_subscribersOfAll : Cond.selects "CoverKeys" yCK_subscribersOfAll yCK_subscribersOfAll ∈ ckT := ck_ms (List.mem_of_getElem? (i := 15) rfl) rfl
theorem kmCK_246 : Cond.methodLink "CoverKeys" 246 yCK_subscribersOfAll ∈ ckT := ck_m3 (List.mem_of_getElem? (i := 162) rfl) rfl
theorem clCK_246 (hx : p.tables.exec = Jvm.exec) (hb : c.code = cc) (hml : c.maxLocals = nL) (hown : s.vm.findClass "CoverKeys" = some m.cls) (hts : ∀ w ∈ ckT, w.before args s = true) (hM : Cq l G yCK_subscribersOfAll cCK_subscribersOfAll 4 (some .int) rm (.ref b :: As) wi φ r wo) (hG : gk G A s s.heap) (hA : ∀ q : Nat, s.heap.size ≤ q → A q) (hP : va_P G.1 vwCl ws H) (hD : va_D A ws) (hS : va_S A s.heap H locs) (q0 : Nat) (hq : ws[q0]? = some (oC b 7 fs)) (is : List Nat) (hC : is.map (fun i => ws[i]?) = wi.map some) (hnd : va_nd is = true) (ha : ∀ u, (wo u).map (·.1) = wi.map (·.1)) (hn : As.length = 0) (hsize : ls.size = nL) (hst : st0 = As.reverse ++ .ref b :: rest) (hrm : (rest.map fun v => v.category).sum ≤ 8) (hR : rm.frames + 1 ≤ R.frames ∧ 8 + (4 + 11) + rm.locals ≤ R.locals) (hf : cells + rm.cells ≤ R.cells ∧ slots + rm.slots ≤ R.slots) (hdg : decode cc pc = .ok (.invokevirtual 246, 3)) (kk : ∀ (u : S) (H1 : Heap) (locs1 : List Loc), φ u → va_P G.1 vwCl (ck_set ws is (wo u)) H1 → va_D A (ck_set ws is (wo u)) → va_S A s.heap H1 locs1 → W p l e R s m args below meth c H1 locs1 (cells + rm.cells) (slots + rm.slots) Q (F0 m (pc + 3) ls ((r u).toList ++ rest))) :
    W p l e R s m args below meth c H locs cells slots Q (F0 m pc ls st0) :=
  cq_V (T := TCK) (N := 9) ⟨hx, hb, hml, hown, hts⟩ hM ⟨callB_of 0 hts (ck_gd0 kcCK_subscribersOfAll) rfl rfl rfl (hts _ knCK) (hts _ kmCK_246) ⟨by decide, by decide, by decide +kernel⟩ hR, hts _ kiCK_subscribersOfAll, hts _ keCK_subscribersOfAll⟩ hG hA hP hD hS hq rfl is hC hnd ha hn hsize hst hrm hdg hf kk
end CLL
