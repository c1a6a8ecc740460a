theorem dCi_init_0 : decode cCi_init 0 = .ok (.aload_n 0, 1) := by decide +kernel
theorem dCi_init_1 : decode cCi_init 1 = .ok (.invokespecial 3, 3) := by decide +kernel
theorem dCi_init_4 : decode cCi_init 4 = .ok (.aload_n 0, 1) := by decide +kernel
theorem dCi_init_5 : decode cCi_init 5 = .ok (.bipush 44, 2) := by decide +kernel
theorem dCi_init_7 : decode cCi_init 7 = .ok (.newarray .int, 2) := by decide +kernel
theorem dCi_init_9 : decode cCi_init 9 = .ok (.putfield 9, 3) := by decide +kernel
theorem dCi_init_12 : decode cCi_init 12 = .ok (.return_, 1) := by decide +kernel
theorem dCi_setKey_0 : decode cCi_setKey 0 = .ok (.aload_n 0, 1) := by decide +kernel
theorem dCi_setKey_1 : decode cCi_setKey 1 = .ok (.getfield 9, 3) := by decide +kernel
theorem dCi_setKey_4 : decode cCi_setKey 4 = .ok (.iconst 0, 1) := by decide +kernel
theorem dCi_setKey_5 : decode cCi_setKey 5 = .ok (.lload_n 1, 1) := by decide +kernel
theorem dCi_setKey_6 : decode cCi_setKey 6 = .ok (.bipush 32, 2) := by decide +kernel
theorem dCi_setKey_8 : decode cCi_setKey 8 = .ok (.lushr, 1) := by decide +kernel
theorem dCi_setKey_9 : decode cCi_setKey 9 = .ok (.l2i, 1) := by decide +kernel
theorem dCi_setKey_10 : decode cCi_setKey 10 = .ok (.iastore, 1) := by decide +kernel
theorem dCi_setKey_11 : decode cCi_setKey 11 = .ok (.aload_n 0, 1) := by decide +kernel
theorem dCi_setKey_12 : decode cCi_setKey 12 = .ok (.getfield 9, 3) := by decide +kernel
theorem dCi_setKey_15 : decode cCi_setKey 15 = .ok (.iconst 1, 1) := by decide +kernel
theorem dCi_setKey_16 : decode cCi_setKey 16 = .ok (.lload_n 1, 1) := by decide +kernel
theorem dCi_setKey_17 : decode cCi_setKey 17 = .ok (.l2i, 1) := by decide +kernel
theorem dCi_setKey_18 : decode cCi_setKey 18 = .ok (.iastore, 1) := by decide +kernel
theorem dCi_setKey_19 : decode cCi_setKey 19 = .ok (.aload_n 0, 1) := by decide +kernel
theorem dCi_setKey_20 : decode cCi_setKey 20 = .ok (.getfield 9, 3) := by decide +kernel
theorem dCi_setKey_23 : decode cCi_setKey 23 = .ok (.iconst 2, 1) := by decide +kernel
theorem dCi_setKey_24 : decode cCi_setKey 24 = .ok (.lload_n 3, 1) := by decide +kernel
theorem dCi_setKey_25 : decode cCi_setKey 25 = .ok (.bipush 32, 2) := by decide +kernel
theorem dCi_setKey_27 : decode cCi_setKey 27 = .ok (.lushr, 1) := by decide +kernel
theorem dCi_setKey_28 : decode cCi_setKey 28 = .ok (.l2i, 1) := by decide +kernel
theorem dCi_setKey_29 : decode cCi_setKey 29 = .ok (.iastore, 1) := by decide +kernel
theorem dCi_setKey_30 : decode cCi_setKey 30 = .ok (.aload_n 0, 1) := by decide +kernel
theorem dCi_setKey_31 : decode cCi_setKey 31 = .ok (.getfield 9, 3) := by decide +kernel
theorem dCi_setKey_34 : decode cCi_setKey 34 = .ok (.iconst 3, 1) := by decide +kernel
theorem dCi_setKey_35 : decode cCi_setKey 35 = .ok (.lload_n 3, 1) := by decide +kernel
theorem dCi_setKey_36 : decode cCi_setKey 36 = .ok (.l2i, 1) := by decide +kernel
theorem dCi_setKey_37 : decode cCi_setKey 37 = .ok (.iastore, 1) := by decide +kernel
theorem dCi_setKey_38 : decode cCi_setKey 38 = .ok (.iconst 1, 1) := by decide +kernel
theorem dCi_setKey_39 : decode cCi_setKey 39 = .ok (.istore 5, 2) := by decide +kernel
theorem dCi_setKey_41 : decode cCi_setKey 41 = .ok (.iconst 4, 1) := by decide +kernel
theorem dCi_setKey_42 : decode cCi_setKey 42 = .ok (.istore 6, 2) := by decide +kernel
theorem dCi_setKey_44 : decode cCi_setKey 44 = .ok (.iload 6, 2) := by decide +kernel
theorem dCi_setKey_46 : decode cCi_setKey 46 = .ok (.bipush 44, 2) := by decide +kernel
theorem dCi_setKey_48 : decode cCi_setKey 48 = .ok (.if_icmp .ge 84, 3) := by decide +kernel
theorem dCi_setKey_51 : decode cCi_setKey 51 = .ok (.aload_n 0, 1) := by decide +kernel
theorem dCi_setKey_52 : decode cCi_setKey 52 = .ok (.getfield 9, 3) := by decide +kernel
theorem dCi_setKey_55 : decode cCi_setKey 55 = .ok (.iload 6, 2) := by decide +kernel
theorem dCi_setKey_57 : decode cCi_setKey 57 = .ok (.iconst 1, 1) := by decide +kernel
theorem dCi_setKey_58 : decode cCi_setKey 58 = .ok (.isub, 1) := by decide +kernel
theorem dCi_setKey_59 : decode cCi_setKey 59 = .ok (.iaload, 1) := by decide +kernel
theorem dCi_setKey_60 : decode cCi_setKey 60 = .ok (.istore 7, 2) := by decide +kernel
theorem dCi_setKey_62 : decode cCi_setKey 62 = .ok (.iload 6, 2) := by decide +kernel
theorem dCi_setKey_64 : decode cCi_setKey 64 = .ok (.iconst 4, 1) := by decide +kernel
theorem dCi_setKey_65 : decode cCi_setKey 65 = .ok (.irem, 1) := by decide +kernel
theorem dCi_setKey_66 : decode cCi_setKey 66 = .ok (.ifCond .ne 41, 3) := by decide +kernel
theorem dCi_setKey_69 : decode cCi_setKey 69 = .ok (.iload 7, 2) := by decide +kernel
theorem dCi_setKey_71 : decode cCi_setKey 71 = .ok (.bipush 8, 2) := by decide +kernel
theorem dCi_setKey_73 : decode cCi_setKey 73 = .ok (.invokestatic 13, 3) := by decide +kernel
theorem dCi_setKey_76 : decode cCi_setKey 76 = .ok (.istore 8, 2) := by decide +kernel
theorem dCi_setKey_78 : decode cCi_setKey 78 = .ok (.getstatic 17, 3) := by decide +kernel
theorem dCi_setKey_81 : decode cCi_setKey 81 = .ok (.iload 8, 2) := by decide +kernel
theorem dCi_setKey_83 : decode cCi_setKey 83 = .ok (.iload 8, 2) := by decide +kernel
theorem dCi_setKey_85 : decode cCi_setKey 85 = .ok (.iload 8, 2) := by decide +kernel
theorem dCi_setKey_87 : decode cCi_setKey 87 = .ok (.iload 8, 2) := by decide +kernel
theorem dCi_setKey_89 : decode cCi_setKey 89 = .ok (.invokestatic 22, 3) := by decide +kernel
theorem dCi_setKey_92 : decode cCi_setKey 92 = .ok (.iload 5, 2) := by decide +kernel
theorem dCi_setKey_94 : decode cCi_setKey 94 = .ok (.bipush 24, 2) := by decide +kernel
theorem dCi_setKey_96 : decode cCi_setKey 96 = .ok (.ishl, 1) := by decide +kernel
theorem dCi_setKey_97 : decode cCi_setKey 97 = .ok (.ixor, 1) := by decide +kernel
theorem dCi_setKey_98 : decode cCi_setKey 98 = .ok (.istore 7, 2) := by decide +kernel
theorem dCi_setKey_100 : decode cCi_setKey 100 = .ok (.iload 5, 2) := by decide +kernel
theorem dCi_setKey_102 : decode cCi_setKey 102 = .ok (.invokestatic 26, 3) := by decide +kernel
theorem dCi_setKey_105 : decode cCi_setKey 105 = .ok (.istore 5, 2) := by decide +kernel
theorem dCi_setKey_107 : decode cCi_setKey 107 = .ok (.aload_n 0, 1) := by decide +kernel
theorem dCi_setKey_108 : decode cCi_setKey 108 = .ok (.getfield 9, 3) := by decide +kernel
theorem dCi_setKey_111 : decode cCi_setKey 111 = .ok (.iload 6, 2) := by decide +kernel
theorem dCi_setKey_113 : decode cCi_setKey 113 = .ok (.aload_n 0, 1) := by decide +kernel
theorem dCi_setKey_114 : decode cCi_setKey 114 = .ok (.getfield 9, 3) := by decide +kernel
theorem dCi_setKey_117 : decode cCi_setKey 117 = .ok (.iload 6, 2) := by decide +kernel
theorem dCi_setKey_119 : decode cCi_setKey 119 = .ok (.iconst 4, 1) := by decide +kernel
theorem dCi_setKey_120 : decode cCi_setKey 120 = .ok (.isub, 1) := by decide +kernel
theorem dCi_setKey_121 : decode cCi_setKey 121 = .ok (.iaload, 1) := by decide +kernel
theorem dCi_setKey_122 : decode cCi_setKey 122 = .ok (.iload 7, 2) := by decide +kernel
theorem dCi_setKey_124 : decode cCi_setKey 124 = .ok (.ixor, 1) := by decide +kernel
theorem dCi_setKey_125 : decode cCi_setKey 125 = .ok (.iastore, 1) := by decide +kernel
theorem dCi_setKey_126 : decode cCi_setKey 126 = .ok (.iinc 6 1, 3) := by decide +kernel
theorem dCi_setKey_129 : decode cCi_setKey 129 = .ok (.goto (-85), 3) := by decide +kernel
theorem dCi_setKey_132 : decode cCi_setKey 132 = .ok (.return_, 1) := by decide +kernel
theorem dCi_turn_0 : decode cCi_turn 0 = .ok (.iload_n 0, 1) := by decide +kernel
theorem dCi_turn_1 : decode cCi_turn 1 = .ok (.iload_n 1, 1) := by decide +kernel
theorem dCi_turn_2 : decode cCi_turn 2 = .ok (.ishl, 1) := by decide +kernel
theorem dCi_turn_3 : decode cCi_turn 3 = .ok (.iload_n 0, 1) := by decide +kernel
theorem dCi_turn_4 : decode cCi_turn 4 = .ok (.bipush 32, 2) := by decide +kernel
theorem dCi_turn_6 : decode cCi_turn 6 = .ok (.iload_n 1, 1) := by decide +kernel
theorem dCi_turn_7 : decode cCi_turn 7 = .ok (.isub, 1) := by decide +kernel
theorem dCi_turn_8 : decode cCi_turn 8 = .ok (.iushr, 1) := by decide +kernel
theorem dCi_turn_9 : decode cCi_turn 9 = .ok (.ior, 1) := by decide +kernel
theorem dCi_turn_10 : decode cCi_turn 10 = .ok (.ireturn, 1) := by decide +kernel
theorem dCi_gather_0 : decode cCi_gather 0 = .ok (.aload_n 0, 1) := by decide +kernel
theorem dCi_gather_1 : decode cCi_gather 1 = .ok (.iload_n 1, 1) := by decide +kernel
theorem dCi_gather_2 : decode cCi_gather 2 = .ok (.bipush 24, 2) := by decide +kernel
theorem dCi_gather_4 : decode cCi_gather 4 = .ok (.iushr, 1) := by decide +kernel
theorem dCi_gather_5 : decode cCi_gather 5 = .ok (.iaload, 1) := by decide +kernel
theorem dCi_gather_6 : decode cCi_gather 6 = .ok (.bipush 24, 2) := by decide +kernel
theorem dCi_gather_8 : decode cCi_gather 8 = .ok (.ishl, 1) := by decide +kernel
theorem dCi_gather_9 : decode cCi_gather 9 = .ok (.aload_n 0, 1) := by decide +kernel
theorem dCi_gather_10 : decode cCi_gather 10 = .ok (.iload_n 2, 1) := by decide +kernel
theorem dCi_gather_11 : decode cCi_gather 11 = .ok (.bipush 16, 2) := by decide +kernel
theorem dCi_gather_13 : decode cCi_gather 13 = .ok (.iushr, 1) := by decide +kernel
theorem dCi_gather_14 : decode cCi_gather 14 = .ok (.sipush 255, 3) := by decide +kernel
theorem dCi_gather_17 : decode cCi_gather 17 = .ok (.iand, 1) := by decide +kernel
theorem dCi_gather_18 : decode cCi_gather 18 = .ok (.iaload, 1) := by decide +kernel
theorem dCi_gather_19 : decode cCi_gather 19 = .ok (.bipush 16, 2) := by decide +kernel
theorem dCi_gather_21 : decode cCi_gather 21 = .ok (.ishl, 1) := by decide +kernel
theorem dCi_gather_22 : decode cCi_gather 22 = .ok (.ior, 1) := by decide +kernel
theorem dCi_gather_23 : decode cCi_gather 23 = .ok (.aload_n 0, 1) := by decide +kernel
theorem dCi_gather_24 : decode cCi_gather 24 = .ok (.iload_n 3, 1) := by decide +kernel
theorem dCi_gather_25 : decode cCi_gather 25 = .ok (.bipush 8, 2) := by decide +kernel
theorem dCi_gather_27 : decode cCi_gather 27 = .ok (.iushr, 1) := by decide +kernel
theorem dCi_gather_28 : decode cCi_gather 28 = .ok (.sipush 255, 3) := by decide +kernel
theorem dCi_gather_31 : decode cCi_gather 31 = .ok (.iand, 1) := by decide +kernel
theorem dCi_gather_32 : decode cCi_gather 32 = .ok (.iaload, 1) := by decide +kernel
theorem dCi_gather_33 : decode cCi_gather 33 = .ok (.bipush 8, 2) := by decide +kernel
theorem dCi_gather_35 : decode cCi_gather 35 = .ok (.ishl, 1) := by decide +kernel
theorem dCi_gather_36 : decode cCi_gather 36 = .ok (.ior, 1) := by decide +kernel
theorem dCi_gather_37 : decode cCi_gather 37 = .ok (.aload_n 0, 1) := by decide +kernel
theorem dCi_gather_38 : decode cCi_gather 38 = .ok (.iload 4, 2) := by decide +kernel
theorem dCi_gather_40 : decode cCi_gather 40 = .ok (.sipush 255, 3) := by decide +kernel
theorem dCi_gather_43 : decode cCi_gather 43 = .ok (.iand, 1) := by decide +kernel
theorem dCi_gather_44 : decode cCi_gather 44 = .ok (.iaload, 1) := by decide +kernel
theorem dCi_gather_45 : decode cCi_gather 45 = .ok (.ior, 1) := by decide +kernel
theorem dCi_gather_46 : decode cCi_gather 46 = .ok (.ireturn, 1) := by decide +kernel
theorem dCi_twice_0 : decode cCi_twice 0 = .ok (.iload_n 0, 1) := by decide +kernel
theorem dCi_twice_1 : decode cCi_twice 1 = .ok (.ldc 52, 2) := by decide +kernel
theorem dCi_twice_3 : decode cCi_twice 3 = .ok (.iand, 1) := by decide +kernel
theorem dCi_twice_4 : decode cCi_twice 4 = .ok (.iconst 1, 1) := by decide +kernel
theorem dCi_twice_5 : decode cCi_twice 5 = .ok (.ishl, 1) := by decide +kernel
theorem dCi_twice_6 : decode cCi_twice 6 = .ok (.iload_n 0, 1) := by decide +kernel
theorem dCi_twice_7 : decode cCi_twice 7 = .ok (.bipush 7, 2) := by decide +kernel
theorem dCi_twice_9 : decode cCi_twice 9 = .ok (.iushr, 1) := by decide +kernel
theorem dCi_twice_10 : decode cCi_twice 10 = .ok (.ldc 53, 2) := by decide +kernel
theorem dCi_twice_12 : decode cCi_twice 12 = .ok (.iand, 1) := by decide +kernel
theorem dCi_twice_13 : decode cCi_twice 13 = .ok (.bipush 27, 2) := by decide +kernel
theorem dCi_twice_15 : decode cCi_twice 15 = .ok (.imul, 1) := by decide +kernel
theorem dCi_twice_16 : decode cCi_twice 16 = .ok (.ixor, 1) := by decide +kernel
theorem dCi_twice_17 : decode cCi_twice 17 = .ok (.ireturn, 1) := by decide +kernel
theorem dCi_encrypt_0 : decode cCi_encrypt 0 = .ok (.lload_n 1, 1) := by decide +kernel
theorem dCi_encrypt_1 : decode cCi_encrypt 1 = .ok (.bipush 32, 2) := by decide +kernel
theorem dCi_encrypt_3 : decode cCi_encrypt 3 = .ok (.lushr, 1) := by decide +kernel
theorem dCi_encrypt_4 : decode cCi_encrypt 4 = .ok (.l2i, 1) := by decide +kernel
theorem dCi_encrypt_5 : decode cCi_encrypt 5 = .ok (.aload_n 0, 1) := by decide +kernel
theorem dCi_encrypt_6 : decode cCi_encrypt 6 = .ok (.getfield 9, 3) := by decide +kernel
theorem dCi_encrypt_9 : decode cCi_encrypt 9 = .ok (.iconst 0, 1) := by decide +kernel
theorem dCi_encrypt_10 : decode cCi_encrypt 10 = .ok (.iaload, 1) := by decide +kernel
theorem dCi_encrypt_11 : decode cCi_encrypt 11 = .ok (.ixor, 1) := by decide +kernel
theorem dCi_encrypt_12 : decode cCi_encrypt 12 = .ok (.istore 5, 2) := by decide +kernel
theorem dCi_encrypt_14 : decode cCi_encrypt 14 = .ok (.lload_n 1, 1) := by decide +kernel
theorem dCi_encrypt_15 : decode cCi_encrypt 15 = .ok (.l2i, 1) := by decide +kernel
theorem dCi_encrypt_16 : decode cCi_encrypt 16 = .ok (.aload_n 0, 1) := by decide +kernel
theorem dCi_encrypt_17 : decode cCi_encrypt 17 = .ok (.getfield 9, 3) := by decide +kernel
theorem dCi_encrypt_20 : decode cCi_encrypt 20 = .ok (.iconst 1, 1) := by decide +kernel
theorem dCi_encrypt_21 : decode cCi_encrypt 21 = .ok (.iaload, 1) := by decide +kernel
theorem dCi_encrypt_22 : decode cCi_encrypt 22 = .ok (.ixor, 1) := by decide +kernel
theorem dCi_encrypt_23 : decode cCi_encrypt 23 = .ok (.istore 6, 2) := by decide +kernel
theorem dCi_encrypt_25 : decode cCi_encrypt 25 = .ok (.lload_n 3, 1) := by decide +kernel
theorem dCi_encrypt_26 : decode cCi_encrypt 26 = .ok (.bipush 32, 2) := by decide +kernel
theorem dCi_encrypt_28 : decode cCi_encrypt 28 = .ok (.lushr, 1) := by decide +kernel
theorem dCi_encrypt_29 : decode cCi_encrypt 29 = .ok (.l2i, 1) := by decide +kernel
theorem dCi_encrypt_30 : decode cCi_encrypt 30 = .ok (.aload_n 0, 1) := by decide +kernel
theorem dCi_encrypt_31 : decode cCi_encrypt 31 = .ok (.getfield 9, 3) := by decide +kernel
theorem dCi_encrypt_34 : decode cCi_encrypt 34 = .ok (.iconst 2, 1) := by decide +kernel
theorem dCi_encrypt_35 : decode cCi_encrypt 35 = .ok (.iaload, 1) := by decide +kernel
theorem dCi_encrypt_36 : decode cCi_encrypt 36 = .ok (.ixor, 1) := by decide +kernel
theorem dCi_encrypt_37 : decode cCi_encrypt 37 = .ok (.istore 7, 2) := by decide +kernel
theorem dCi_encrypt_39 : decode cCi_encrypt 39 = .ok (.lload_n 3, 1) := by decide +kernel
theorem dCi_encrypt_40 : decode cCi_encrypt 40 = .ok (.l2i, 1) := by decide +kernel
theorem dCi_encrypt_41 : decode cCi_encrypt 41 = .ok (.aload_n 0, 1) := by decide +kernel
theorem dCi_encrypt_42 : decode cCi_encrypt 42 = .ok (.getfield 9, 3) := by decide +kernel
theorem dCi_encrypt_45 : decode cCi_encrypt 45 = .ok (.iconst 3, 1) := by decide +kernel
theorem dCi_encrypt_46 : decode cCi_encrypt 46 = .ok (.iaload, 1) := by decide +kernel
theorem dCi_encrypt_47 : decode cCi_encrypt 47 = .ok (.ixor, 1) := by decide +kernel
theorem dCi_encrypt_48 : decode cCi_encrypt 48 = .ok (.istore 8, 2) := by decide +kernel
theorem dCi_encrypt_50 : decode cCi_encrypt 50 = .ok (.iconst 1, 1) := by decide +kernel
theorem dCi_encrypt_51 : decode cCi_encrypt 51 = .ok (.istore 9, 2) := by decide +kernel
theorem dCi_encrypt_53 : decode cCi_encrypt 53 = .ok (.iload 9, 2) := by decide +kernel
theorem dCi_encrypt_55 : decode cCi_encrypt 55 = .ok (.bipush 10, 2) := by decide +kernel
theorem dCi_encrypt_57 : decode cCi_encrypt 57 = .ok (.if_icmp .gt 201, 3) := by decide +kernel
theorem dCi_encrypt_60 : decode cCi_encrypt 60 = .ok (.getstatic 17, 3) := by decide +kernel
theorem dCi_encrypt_63 : decode cCi_encrypt 63 = .ok (.iload 5, 2) := by decide +kernel
theorem dCi_encrypt_65 : decode cCi_encrypt 65 = .ok (.iload 6, 2) := by decide +kernel
theorem dCi_encrypt_67 : decode cCi_encrypt 67 = .ok (.iload 7, 2) := by decide +kernel
theorem dCi_encrypt_69 : decode cCi_encrypt 69 = .ok (.iload 8, 2) := by decide +kernel
theorem dCi_encrypt_71 : decode cCi_encrypt 71 = .ok (.invokestatic 22, 3) := by decide +kernel
theorem dCi_encrypt_74 : decode cCi_encrypt 74 = .ok (.istore 10, 2) := by decide +kernel
theorem dCi_encrypt_76 : decode cCi_encrypt 76 = .ok (.getstatic 17, 3) := by decide +kernel
theorem dCi_encrypt_79 : decode cCi_encrypt 79 = .ok (.iload 6, 2) := by decide +kernel
theorem dCi_encrypt_81 : decode cCi_encrypt 81 = .ok (.iload 7, 2) := by decide +kernel
theorem dCi_encrypt_83 : decode cCi_encrypt 83 = .ok (.iload 8, 2) := by decide +kernel
theorem dCi_encrypt_85 : decode cCi_encrypt 85 = .ok (.iload 5, 2) := by decide +kernel
theorem dCi_encrypt_87 : decode cCi_encrypt 87 = .ok (.invokestatic 22, 3) := by decide +kernel
theorem dCi_encrypt_90 : decode cCi_encrypt 90 = .ok (.istore 11, 2) := by decide +kernel
theorem dCi_encrypt_92 : decode cCi_encrypt 92 = .ok (.getstatic 17, 3) := by decide +kernel
theorem dCi_encrypt_95 : decode cCi_encrypt 95 = .ok (.iload 7, 2) := by decide +kernel
theorem dCi_encrypt_97 : decode cCi_encrypt 97 = .ok (.iload 8, 2) := by decide +kernel
theorem dCi_encrypt_99 : decode cCi_encrypt 99 = .ok (.iload 5, 2) := by decide +kernel
theorem dCi_encrypt_101 : decode cCi_encrypt 101 = .ok (.iload 6, 2) := by decide +kernel
theorem dCi_encrypt_103 : decode cCi_encrypt 103 = .ok (.invokestatic 22, 3) := by decide +kernel
theorem dCi_encrypt_106 : decode cCi_encrypt 106 = .ok (.istore 12, 2) := by decide +kernel
theorem dCi_encrypt_108 : decode cCi_encrypt 108 = .ok (.getstatic 17, 3) := by decide +kernel
theorem dCi_encrypt_111 : decode cCi_encrypt 111 = .ok (.iload 8, 2) := by decide +kernel
theorem dCi_encrypt_113 : decode cCi_encrypt 113 = .ok (.iload 5, 2) := by decide +kernel
theorem dCi_encrypt_115 : decode cCi_encrypt 115 = .ok (.iload 6, 2) := by decide +kernel
theorem dCi_encrypt_117 : decode cCi_encrypt 117 = .ok (.iload 7, 2) := by decide +kernel
theorem dCi_encrypt_119 : decode cCi_encrypt 119 = .ok (.invokestatic 22, 3) := by decide +kernel
theorem dCi_encrypt_122 : decode cCi_encrypt 122 = .ok (.istore 13, 2) := by decide +kernel
theorem dCi_encrypt_124 : decode cCi_encrypt 124 = .ok (.iload 9, 2) := by decide +kernel
theorem dCi_encrypt_126 : decode cCi_encrypt 126 = .ok (.bipush 10, 2) := by decide +kernel
theorem dCi_encrypt_128 : decode cCi_encrypt 128 = .ok (.if_icmp .ge 7, 3) := by decide +kernel
theorem dCi_encrypt_131 : decode cCi_encrypt 131 = .ok (.iconst 1, 1) := by decide +kernel
theorem dCi_encrypt_132 : decode cCi_encrypt 132 = .ok (.goto 4, 3) := by decide +kernel
theorem dCi_encrypt_135 : decode cCi_encrypt 135 = .ok (.iconst 0, 1) := by decide +kernel
theorem dCi_encrypt_136 : decode cCi_encrypt 136 = .ok (.istore 14, 2) := by decide +kernel
theorem dCi_encrypt_138 : decode cCi_encrypt 138 = .ok (.iload 14, 2) := by decide +kernel
theorem dCi_encrypt_140 : decode cCi_encrypt 140 = .ok (.ifCond .eq 11, 3) := by decide +kernel
theorem dCi_encrypt_143 : decode cCi_encrypt 143 = .ok (.iload 10, 2) := by decide +kernel
theorem dCi_encrypt_145 : decode cCi_encrypt 145 = .ok (.invokestatic 30, 3) := by decide +kernel
theorem dCi_encrypt_148 : decode cCi_encrypt 148 = .ok (.goto 5, 3) := by decide +kernel
theorem dCi_encrypt_151 : decode cCi_encrypt 151 = .ok (.iload 10, 2) := by decide +kernel
theorem dCi_encrypt_153 : decode cCi_encrypt 153 = .ok (.aload_n 0, 1) := by decide +kernel
theorem dCi_encrypt_154 : decode cCi_encrypt 154 = .ok (.getfield 9, 3) := by decide +kernel
theorem dCi_encrypt_157 : decode cCi_encrypt 157 = .ok (.iconst 4, 1) := by decide +kernel
theorem dCi_encrypt_158 : decode cCi_encrypt 158 = .ok (.iload 9, 2) := by decide +kernel
theorem dCi_encrypt_160 : decode cCi_encrypt 160 = .ok (.imul, 1) := by decide +kernel
theorem dCi_encrypt_161 : decode cCi_encrypt 161 = .ok (.iaload, 1) := by decide +kernel
theorem dCi_encrypt_162 : decode cCi_encrypt 162 = .ok (.ixor, 1) := by decide +kernel
theorem dCi_encrypt_163 : decode cCi_encrypt 163 = .ok (.istore 5, 2) := by decide +kernel
theorem dCi_encrypt_165 : decode cCi_encrypt 165 = .ok (.iload 14, 2) := by decide +kernel
theorem dCi_encrypt_167 : decode cCi_encrypt 167 = .ok (.ifCond .eq 11, 3) := by decide +kernel
theorem dCi_encrypt_170 : decode cCi_encrypt 170 = .ok (.iload 11, 2) := by decide +kernel
theorem dCi_encrypt_172 : decode cCi_encrypt 172 = .ok (.invokestatic 30, 3) := by decide +kernel
theorem dCi_encrypt_175 : decode cCi_encrypt 175 = .ok (.goto 5, 3) := by decide +kernel
theorem dCi_encrypt_178 : decode cCi_encrypt 178 = .ok (.iload 11, 2) := by decide +kernel
theorem dCi_encrypt_180 : decode cCi_encrypt 180 = .ok (.aload_n 0, 1) := by decide +kernel
theorem dCi_encrypt_181 : decode cCi_encrypt 181 = .ok (.getfield 9, 3) := by decide +kernel
theorem dCi_encrypt_184 : decode cCi_encrypt 184 = .ok (.iconst 4, 1) := by decide +kernel
theorem dCi_encrypt_185 : decode cCi_encrypt 185 = .ok (.iload 9, 2) := by decide +kernel
theorem dCi_encrypt_187 : decode cCi_encrypt 187 = .ok (.imul, 1) := by decide +kernel
theorem dCi_encrypt_188 : decode cCi_encrypt 188 = .ok (.iconst 1, 1) := by decide +kernel
theorem dCi_encrypt_189 : decode cCi_encrypt 189 = .ok (.iadd, 1) := by decide +kernel
theorem dCi_encrypt_190 : decode cCi_encrypt 190 = .ok (.iaload, 1) := by decide +kernel
theorem dCi_encrypt_191 : decode cCi_encrypt 191 = .ok (.ixor, 1) := by decide +kernel
theorem dCi_encrypt_192 : decode cCi_encrypt 192 = .ok (.istore 6, 2) := by decide +kernel
theorem dCi_encrypt_194 : decode cCi_encrypt 194 = .ok (.iload 14, 2) := by decide +kernel
theorem dCi_encrypt_196 : decode cCi_encrypt 196 = .ok (.ifCond .eq 11, 3) := by decide +kernel
theorem dCi_encrypt_199 : decode cCi_encrypt 199 = .ok (.iload 12, 2) := by decide +kernel
theorem dCi_encrypt_201 : decode cCi_encrypt 201 = .ok (.invokestatic 30, 3) := by decide +kernel
theorem dCi_encrypt_204 : decode cCi_encrypt 204 = .ok (.goto 5, 3) := by decide +kernel
theorem dCi_encrypt_207 : decode cCi_encrypt 207 = .ok (.iload 12, 2) := by decide +kernel
theorem dCi_encrypt_209 : decode cCi_encrypt 209 = .ok (.aload_n 0, 1) := by decide +kernel
theorem dCi_encrypt_210 : decode cCi_encrypt 210 = .ok (.getfield 9, 3) := by decide +kernel
theorem dCi_encrypt_213 : decode cCi_encrypt 213 = .ok (.iconst 4, 1) := by decide +kernel
theorem dCi_encrypt_214 : decode cCi_encrypt 214 = .ok (.iload 9, 2) := by decide +kernel
theorem dCi_encrypt_216 : decode cCi_encrypt 216 = .ok (.imul, 1) := by decide +kernel
theorem dCi_encrypt_217 : decode cCi_encrypt 217 = .ok (.iconst 2, 1) := by decide +kernel
theorem dCi_encrypt_218 : decode cCi_encrypt 218 = .ok (.iadd, 1) := by decide +kernel
theorem dCi_encrypt_219 : decode cCi_encrypt 219 = .ok (.iaload, 1) := by decide +kernel
theorem dCi_encrypt_220 : decode cCi_encrypt 220 = .ok (.ixor, 1) := by decide +kernel
theorem dCi_encrypt_221 : decode cCi_encrypt 221 = .ok (.istore 7, 2) := by decide +kernel
theorem dCi_encrypt_223 : decode cCi_encrypt 223 = .ok (.iload 14, 2) := by decide +kernel
theorem dCi_encrypt_225 : decode cCi_encrypt 225 = .ok (.ifCond .eq 11, 3) := by decide +kernel
theorem dCi_encrypt_228 : decode cCi_encrypt 228 = .ok (.iload 13, 2) := by decide +kernel
theorem dCi_encrypt_230 : decode cCi_encrypt 230 = .ok (.invokestatic 30, 3) := by decide +kernel
theorem dCi_encrypt_233 : decode cCi_encrypt 233 = .ok (.goto 5, 3) := by decide +kernel
theorem dCi_encrypt_236 : decode cCi_encrypt 236 = .ok (.iload 13, 2) := by decide +kernel
theorem dCi_encrypt_238 : decode cCi_encrypt 238 = .ok (.aload_n 0, 1) := by decide +kernel
theorem dCi_encrypt_239 : decode cCi_encrypt 239 = .ok (.getfield 9, 3) := by decide +kernel
theorem dCi_encrypt_242 : decode cCi_encrypt 242 = .ok (.iconst 4, 1) := by decide +kernel
theorem dCi_encrypt_243 : decode cCi_encrypt 243 = .ok (.iload 9, 2) := by decide +kernel
theorem dCi_encrypt_245 : decode cCi_encrypt 245 = .ok (.imul, 1) := by decide +kernel
theorem dCi_encrypt_246 : decode cCi_encrypt 246 = .ok (.iconst 3, 1) := by decide +kernel
theorem dCi_encrypt_247 : decode cCi_encrypt 247 = .ok (.iadd, 1) := by decide +kernel
theorem dCi_encrypt_248 : decode cCi_encrypt 248 = .ok (.iaload, 1) := by decide +kernel
theorem dCi_encrypt_249 : decode cCi_encrypt 249 = .ok (.ixor, 1) := by decide +kernel
theorem dCi_encrypt_250 : decode cCi_encrypt 250 = .ok (.istore 8, 2) := by decide +kernel
theorem dCi_encrypt_252 : decode cCi_encrypt 252 = .ok (.iinc 9 1, 3) := by decide +kernel
theorem dCi_encrypt_255 : decode cCi_encrypt 255 = .ok (.goto (-202), 3) := by decide +kernel
theorem dCi_encrypt_258 : decode cCi_encrypt 258 = .ok (.aload_n 0, 1) := by decide +kernel
theorem dCi_encrypt_259 : decode cCi_encrypt 259 = .ok (.iload 5, 2) := by decide +kernel
theorem dCi_encrypt_261 : decode cCi_encrypt 261 = .ok (.iload 6, 2) := by decide +kernel
theorem dCi_encrypt_263 : decode cCi_encrypt 263 = .ok (.iload 7, 2) := by decide +kernel
theorem dCi_encrypt_265 : decode cCi_encrypt 265 = .ok (.iload 8, 2) := by decide +kernel
theorem dCi_encrypt_267 : decode cCi_encrypt 267 = .ok (.invokevirtual 33, 3) := by decide +kernel
theorem dCi_encrypt_270 : decode cCi_encrypt 270 = .ok (.return_, 1) := by decide +kernel
theorem dCi_mix_0 : decode cCi_mix 0 = .ok (.iload_n 0, 1) := by decide +kernel
theorem dCi_mix_1 : decode cCi_mix 1 = .ok (.invokestatic 26, 3) := by decide +kernel
theorem dCi_mix_4 : decode cCi_mix 4 = .ok (.istore_n 1, 1) := by decide +kernel
theorem dCi_mix_5 : decode cCi_mix 5 = .ok (.iload_n 1, 1) := by decide +kernel
theorem dCi_mix_6 : decode cCi_mix 6 = .ok (.iload_n 1, 1) := by decide +kernel
theorem dCi_mix_7 : decode cCi_mix 7 = .ok (.iload_n 0, 1) := by decide +kernel
theorem dCi_mix_8 : decode cCi_mix 8 = .ok (.ixor, 1) := by decide +kernel
theorem dCi_mix_9 : decode cCi_mix 9 = .ok (.bipush 8, 2) := by decide +kernel
theorem dCi_mix_11 : decode cCi_mix 11 = .ok (.invokestatic 13, 3) := by decide +kernel
theorem dCi_mix_14 : decode cCi_mix 14 = .ok (.ixor, 1) := by decide +kernel
theorem dCi_mix_15 : decode cCi_mix 15 = .ok (.iload_n 0, 1) := by decide +kernel
theorem dCi_mix_16 : decode cCi_mix 16 = .ok (.bipush 16, 2) := by decide +kernel
theorem dCi_mix_18 : decode cCi_mix 18 = .ok (.invokestatic 13, 3) := by decide +kernel
theorem dCi_mix_21 : decode cCi_mix 21 = .ok (.ixor, 1) := by decide +kernel
theorem dCi_mix_22 : decode cCi_mix 22 = .ok (.iload_n 0, 1) := by decide +kernel
theorem dCi_mix_23 : decode cCi_mix 23 = .ok (.bipush 24, 2) := by decide +kernel
theorem dCi_mix_25 : decode cCi_mix 25 = .ok (.invokestatic 13, 3) := by decide +kernel
theorem dCi_mix_28 : decode cCi_mix 28 = .ok (.ixor, 1) := by decide +kernel
theorem dCi_mix_29 : decode cCi_mix 29 = .ok (.ireturn, 1) := by decide +kernel
theorem dCi_keepBlock_0 : decode cCi_keepBlock 0 = .ok (.aload_n 0, 1) := by decide +kernel
theorem dCi_keepBlock_1 : decode cCi_keepBlock 1 = .ok (.iload_n 1, 1) := by decide +kernel
theorem dCi_keepBlock_2 : decode cCi_keepBlock 2 = .ok (.i2l, 1) := by decide +kernel
theorem dCi_keepBlock_3 : decode cCi_keepBlock 3 = .ok (.bipush 32, 2) := by decide +kernel
theorem dCi_keepBlock_5 : decode cCi_keepBlock 5 = .ok (.lshl, 1) := by decide +kernel
theorem dCi_keepBlock_6 : decode cCi_keepBlock 6 = .ok (.iload_n 2, 1) := by decide +kernel
theorem dCi_keepBlock_7 : decode cCi_keepBlock 7 = .ok (.i2l, 1) := by decide +kernel
theorem dCi_keepBlock_8 : decode cCi_keepBlock 8 = .ok (.ldc2_w 43, 3) := by decide +kernel
theorem dCi_keepBlock_11 : decode cCi_keepBlock 11 = .ok (.land, 1) := by decide +kernel
theorem dCi_keepBlock_12 : decode cCi_keepBlock 12 = .ok (.lor, 1) := by decide +kernel
theorem dCi_keepBlock_13 : decode cCi_keepBlock 13 = .ok (.putfield 45, 3) := by decide +kernel
theorem dCi_keepBlock_16 : decode cCi_keepBlock 16 = .ok (.aload_n 0, 1) := by decide +kernel
theorem dCi_keepBlock_17 : decode cCi_keepBlock 17 = .ok (.iload_n 3, 1) := by decide +kernel
theorem dCi_keepBlock_18 : decode cCi_keepBlock 18 = .ok (.i2l, 1) := by decide +kernel
theorem dCi_keepBlock_19 : decode cCi_keepBlock 19 = .ok (.bipush 32, 2) := by decide +kernel
theorem dCi_keepBlock_21 : decode cCi_keepBlock 21 = .ok (.lshl, 1) := by decide +kernel
theorem dCi_keepBlock_22 : decode cCi_keepBlock 22 = .ok (.iload 4, 2) := by decide +kernel
theorem dCi_keepBlock_24 : decode cCi_keepBlock 24 = .ok (.i2l, 1) := by decide +kernel
theorem dCi_keepBlock_25 : decode cCi_keepBlock 25 = .ok (.ldc2_w 43, 3) := by decide +kernel
theorem dCi_keepBlock_28 : decode cCi_keepBlock 28 = .ok (.land, 1) := by decide +kernel
theorem dCi_keepBlock_29 : decode cCi_keepBlock 29 = .ok (.lor, 1) := by decide +kernel
theorem dCi_keepBlock_30 : decode cCi_keepBlock 30 = .ok (.putfield 49, 3) := by decide +kernel
theorem dCi_keepBlock_33 : decode cCi_keepBlock 33 = .ok (.return_, 1) := by decide +kernel
theorem dCi_decrypt_0 : decode cCi_decrypt 0 = .ok (.lload_n 1, 1) := by decide +kernel
theorem dCi_decrypt_1 : decode cCi_decrypt 1 = .ok (.bipush 32, 2) := by decide +kernel
theorem dCi_decrypt_3 : decode cCi_decrypt 3 = .ok (.lushr, 1) := by decide +kernel
theorem dCi_decrypt_4 : decode cCi_decrypt 4 = .ok (.l2i, 1) := by decide +kernel
theorem dCi_decrypt_5 : decode cCi_decrypt 5 = .ok (.istore 5, 2) := by decide +kernel
theorem dCi_decrypt_7 : decode cCi_decrypt 7 = .ok (.lload_n 1, 1) := by decide +kernel
theorem dCi_decrypt_8 : decode cCi_decrypt 8 = .ok (.l2i, 1) := by decide +kernel
theorem dCi_decrypt_9 : decode cCi_decrypt 9 = .ok (.istore 6, 2) := by decide +kernel
theorem dCi_decrypt_11 : decode cCi_decrypt 11 = .ok (.lload_n 3, 1) := by decide +kernel
theorem dCi_decrypt_12 : decode cCi_decrypt 12 = .ok (.bipush 32, 2) := by decide +kernel
theorem dCi_decrypt_14 : decode cCi_decrypt 14 = .ok (.lushr, 1) := by decide +kernel
theorem dCi_decrypt_15 : decode cCi_decrypt 15 = .ok (.l2i, 1) := by decide +kernel
theorem dCi_decrypt_16 : decode cCi_decrypt 16 = .ok (.istore 7, 2) := by decide +kernel
theorem dCi_decrypt_18 : decode cCi_decrypt 18 = .ok (.lload_n 3, 1) := by decide +kernel
theorem dCi_decrypt_19 : decode cCi_decrypt 19 = .ok (.l2i, 1) := by decide +kernel
theorem dCi_decrypt_20 : decode cCi_decrypt 20 = .ok (.istore 8, 2) := by decide +kernel
theorem dCi_decrypt_22 : decode cCi_decrypt 22 = .ok (.bipush 10, 2) := by decide +kernel
theorem dCi_decrypt_24 : decode cCi_decrypt 24 = .ok (.istore 9, 2) := by decide +kernel
theorem dCi_decrypt_26 : decode cCi_decrypt 26 = .ok (.iload 9, 2) := by decide +kernel
theorem dCi_decrypt_28 : decode cCi_decrypt 28 = .ok (.iconst 1, 1) := by decide +kernel
theorem dCi_decrypt_29 : decode cCi_decrypt 29 = .ok (.if_icmp .lt 217, 3) := by decide +kernel
theorem dCi_decrypt_32 : decode cCi_decrypt 32 = .ok (.iload 9, 2) := by decide +kernel
theorem dCi_decrypt_34 : decode cCi_decrypt 34 = .ok (.bipush 10, 2) := by decide +kernel
theorem dCi_decrypt_36 : decode cCi_decrypt 36 = .ok (.if_icmp .ge 7, 3) := by decide +kernel
theorem dCi_decrypt_39 : decode cCi_decrypt 39 = .ok (.iconst 1, 1) := by decide +kernel
theorem dCi_decrypt_40 : decode cCi_decrypt 40 = .ok (.goto 4, 3) := by decide +kernel
theorem dCi_decrypt_43 : decode cCi_decrypt 43 = .ok (.iconst 0, 1) := by decide +kernel
theorem dCi_decrypt_44 : decode cCi_decrypt 44 = .ok (.istore 10, 2) := by decide +kernel
theorem dCi_decrypt_46 : decode cCi_decrypt 46 = .ok (.iload 5, 2) := by decide +kernel
theorem dCi_decrypt_48 : decode cCi_decrypt 48 = .ok (.aload_n 0, 1) := by decide +kernel
theorem dCi_decrypt_49 : decode cCi_decrypt 49 = .ok (.getfield 9, 3) := by decide +kernel
theorem dCi_decrypt_52 : decode cCi_decrypt 52 = .ok (.iconst 4, 1) := by decide +kernel
theorem dCi_decrypt_53 : decode cCi_decrypt 53 = .ok (.iload 9, 2) := by decide +kernel
theorem dCi_decrypt_55 : decode cCi_decrypt 55 = .ok (.imul, 1) := by decide +kernel
theorem dCi_decrypt_56 : decode cCi_decrypt 56 = .ok (.iaload, 1) := by decide +kernel
theorem dCi_decrypt_57 : decode cCi_decrypt 57 = .ok (.ixor, 1) := by decide +kernel
theorem dCi_decrypt_58 : decode cCi_decrypt 58 = .ok (.istore 11, 2) := by decide +kernel
theorem dCi_decrypt_60 : decode cCi_decrypt 60 = .ok (.iload 6, 2) := by decide +kernel
theorem dCi_decrypt_62 : decode cCi_decrypt 62 = .ok (.aload_n 0, 1) := by decide +kernel
theorem dCi_decrypt_63 : decode cCi_decrypt 63 = .ok (.getfield 9, 3) := by decide +kernel
theorem dCi_decrypt_66 : decode cCi_decrypt 66 = .ok (.iconst 4, 1) := by decide +kernel
theorem dCi_decrypt_67 : decode cCi_decrypt 67 = .ok (.iload 9, 2) := by decide +kernel
theorem dCi_decrypt_69 : decode cCi_decrypt 69 = .ok (.imul, 1) := by decide +kernel
theorem dCi_decrypt_70 : decode cCi_decrypt 70 = .ok (.iconst 1, 1) := by decide +kernel
theorem dCi_decrypt_71 : decode cCi_decrypt 71 = .ok (.iadd, 1) := by decide +kernel
theorem dCi_decrypt_72 : decode cCi_decrypt 72 = .ok (.iaload, 1) := by decide +kernel
theorem dCi_decrypt_73 : decode cCi_decrypt 73 = .ok (.ixor, 1) := by decide +kernel
theorem dCi_decrypt_74 : decode cCi_decrypt 74 = .ok (.istore 12, 2) := by decide +kernel
theorem dCi_decrypt_76 : decode cCi_decrypt 76 = .ok (.iload 7, 2) := by decide +kernel
theorem dCi_decrypt_78 : decode cCi_decrypt 78 = .ok (.aload_n 0, 1) := by decide +kernel
theorem dCi_decrypt_79 : decode cCi_decrypt 79 = .ok (.getfield 9, 3) := by decide +kernel
theorem dCi_decrypt_82 : decode cCi_decrypt 82 = .ok (.iconst 4, 1) := by decide +kernel
theorem dCi_decrypt_83 : decode cCi_decrypt 83 = .ok (.iload 9, 2) := by decide +kernel
theorem dCi_decrypt_85 : decode cCi_decrypt 85 = .ok (.imul, 1) := by decide +kernel
theorem dCi_decrypt_86 : decode cCi_decrypt 86 = .ok (.iconst 2, 1) := by decide +kernel
theorem dCi_decrypt_87 : decode cCi_decrypt 87 = .ok (.iadd, 1) := by decide +kernel
theorem dCi_decrypt_88 : decode cCi_decrypt 88 = .ok (.iaload, 1) := by decide +kernel
theorem dCi_decrypt_89 : decode cCi_decrypt 89 = .ok (.ixor, 1) := by decide +kernel
theorem dCi_decrypt_90 : decode cCi_decrypt 90 = .ok (.istore 13, 2) := by decide +kernel
theorem dCi_decrypt_92 : decode cCi_decrypt 92 = .ok (.iload 8, 2) := by decide +kernel
theorem dCi_decrypt_94 : decode cCi_decrypt 94 = .ok (.aload_n 0, 1) := by decide +kernel
theorem dCi_decrypt_95 : decode cCi_decrypt 95 = .ok (.getfield 9, 3) := by decide +kernel
theorem dCi_decrypt_98 : decode cCi_decrypt 98 = .ok (.iconst 4, 1) := by decide +kernel
theorem dCi_decrypt_99 : decode cCi_decrypt 99 = .ok (.iload 9, 2) := by decide +kernel
theorem dCi_decrypt_101 : decode cCi_decrypt 101 = .ok (.imul, 1) := by decide +kernel
theorem dCi_decrypt_102 : decode cCi_decrypt 102 = .ok (.iconst 3, 1) := by decide +kernel
theorem dCi_decrypt_103 : decode cCi_decrypt 103 = .ok (.iadd, 1) := by decide +kernel
theorem dCi_decrypt_104 : decode cCi_decrypt 104 = .ok (.iaload, 1) := by decide +kernel
theorem dCi_decrypt_105 : decode cCi_decrypt 105 = .ok (.ixor, 1) := by decide +kernel
theorem dCi_decrypt_106 : decode cCi_decrypt 106 = .ok (.istore 14, 2) := by decide +kernel
theorem dCi_decrypt_108 : decode cCi_decrypt 108 = .ok (.iload 10, 2) := by decide +kernel
theorem dCi_decrypt_110 : decode cCi_decrypt 110 = .ok (.ifCond .eq 11, 3) := by decide +kernel
theorem dCi_decrypt_113 : decode cCi_decrypt 113 = .ok (.iload 11, 2) := by decide +kernel
theorem dCi_decrypt_115 : decode cCi_decrypt 115 = .ok (.invokestatic 37, 3) := by decide +kernel
theorem dCi_decrypt_118 : decode cCi_decrypt 118 = .ok (.goto 5, 3) := by decide +kernel
theorem dCi_decrypt_121 : decode cCi_decrypt 121 = .ok (.iload 11, 2) := by decide +kernel
theorem dCi_decrypt_123 : decode cCi_decrypt 123 = .ok (.istore 11, 2) := by decide +kernel
theorem dCi_decrypt_125 : decode cCi_decrypt 125 = .ok (.iload 10, 2) := by decide +kernel
theorem dCi_decrypt_127 : decode cCi_decrypt 127 = .ok (.ifCond .eq 11, 3) := by decide +kernel
theorem dCi_decrypt_130 : decode cCi_decrypt 130 = .ok (.iload 12, 2) := by decide +kernel
theorem dCi_decrypt_132 : decode cCi_decrypt 132 = .ok (.invokestatic 37, 3) := by decide +kernel
theorem dCi_decrypt_135 : decode cCi_decrypt 135 = .ok (.goto 5, 3) := by decide +kernel
theorem dCi_decrypt_138 : decode cCi_decrypt 138 = .ok (.iload 12, 2) := by decide +kernel
theorem dCi_decrypt_140 : decode cCi_decrypt 140 = .ok (.istore 12, 2) := by decide +kernel
theorem dCi_decrypt_142 : decode cCi_decrypt 142 = .ok (.iload 10, 2) := by decide +kernel
theorem dCi_decrypt_144 : decode cCi_decrypt 144 = .ok (.ifCond .eq 11, 3) := by decide +kernel
theorem dCi_decrypt_147 : decode cCi_decrypt 147 = .ok (.iload 13, 2) := by decide +kernel
theorem dCi_decrypt_149 : decode cCi_decrypt 149 = .ok (.invokestatic 37, 3) := by decide +kernel
theorem dCi_decrypt_152 : decode cCi_decrypt 152 = .ok (.goto 5, 3) := by decide +kernel
theorem dCi_decrypt_155 : decode cCi_decrypt 155 = .ok (.iload 13, 2) := by decide +kernel
theorem dCi_decrypt_157 : decode cCi_decrypt 157 = .ok (.istore 13, 2) := by decide +kernel
theorem dCi_decrypt_159 : decode cCi_decrypt 159 = .ok (.iload 10, 2) := by decide +kernel
theorem dCi_decrypt_161 : decode cCi_decrypt 161 = .ok (.ifCond .eq 11, 3) := by decide +kernel
theorem dCi_decrypt_164 : decode cCi_decrypt 164 = .ok (.iload 14, 2) := by decide +kernel
theorem dCi_decrypt_166 : decode cCi_decrypt 166 = .ok (.invokestatic 37, 3) := by decide +kernel
theorem dCi_decrypt_169 : decode cCi_decrypt 169 = .ok (.goto 5, 3) := by decide +kernel
theorem dCi_decrypt_172 : decode cCi_decrypt 172 = .ok (.iload 14, 2) := by decide +kernel
theorem dCi_decrypt_174 : decode cCi_decrypt 174 = .ok (.istore 14, 2) := by decide +kernel
theorem dCi_decrypt_176 : decode cCi_decrypt 176 = .ok (.getstatic 40, 3) := by decide +kernel
theorem dCi_decrypt_179 : decode cCi_decrypt 179 = .ok (.iload 11, 2) := by decide +kernel
theorem dCi_decrypt_181 : decode cCi_decrypt 181 = .ok (.iload 14, 2) := by decide +kernel
theorem dCi_decrypt_183 : decode cCi_decrypt 183 = .ok (.iload 13, 2) := by decide +kernel
theorem dCi_decrypt_185 : decode cCi_decrypt 185 = .ok (.iload 12, 2) := by decide +kernel
theorem dCi_decrypt_187 : decode cCi_decrypt 187 = .ok (.invokestatic 22, 3) := by decide +kernel
theorem dCi_decrypt_190 : decode cCi_decrypt 190 = .ok (.istore 5, 2) := by decide +kernel
theorem dCi_decrypt_192 : decode cCi_decrypt 192 = .ok (.getstatic 40, 3) := by decide +kernel
theorem dCi_decrypt_195 : decode cCi_decrypt 195 = .ok (.iload 12, 2) := by decide +kernel
theorem dCi_decrypt_197 : decode cCi_decrypt 197 = .ok (.iload 11, 2) := by decide +kernel
theorem dCi_decrypt_199 : decode cCi_decrypt 199 = .ok (.iload 14, 2) := by decide +kernel
theorem dCi_decrypt_201 : decode cCi_decrypt 201 = .ok (.iload 13, 2) := by decide +kernel
theorem dCi_decrypt_203 : decode cCi_decrypt 203 = .ok (.invokestatic 22, 3) := by decide +kernel
theorem dCi_decrypt_206 : decode cCi_decrypt 206 = .ok (.istore 6, 2) := by decide +kernel
theorem dCi_decrypt_208 : decode cCi_decrypt 208 = .ok (.getstatic 40, 3) := by decide +kernel
theorem dCi_decrypt_211 : decode cCi_decrypt 211 = .ok (.iload 13, 2) := by decide +kernel
theorem dCi_decrypt_213 : decode cCi_decrypt 213 = .ok (.iload 12, 2) := by decide +kernel
theorem dCi_decrypt_215 : decode cCi_decrypt 215 = .ok (.iload 11, 2) := by decide +kernel
theorem dCi_decrypt_217 : decode cCi_decrypt 217 = .ok (.iload 14, 2) := by decide +kernel
theorem dCi_decrypt_219 : decode cCi_decrypt 219 = .ok (.invokestatic 22, 3) := by decide +kernel
theorem dCi_decrypt_222 : decode cCi_decrypt 222 = .ok (.istore 7, 2) := by decide +kernel
theorem dCi_decrypt_224 : decode cCi_decrypt 224 = .ok (.getstatic 40, 3) := by decide +kernel
theorem dCi_decrypt_227 : decode cCi_decrypt 227 = .ok (.iload 14, 2) := by decide +kernel
theorem dCi_decrypt_229 : decode cCi_decrypt 229 = .ok (.iload 13, 2) := by decide +kernel
theorem dCi_decrypt_231 : decode cCi_decrypt 231 = .ok (.iload 12, 2) := by decide +kernel
theorem dCi_decrypt_233 : decode cCi_decrypt 233 = .ok (.iload 11, 2) := by decide +kernel
theorem dCi_decrypt_235 : decode cCi_decrypt 235 = .ok (.invokestatic 22, 3) := by decide +kernel
theorem dCi_decrypt_238 : decode cCi_decrypt 238 = .ok (.istore 8, 2) := by decide +kernel
theorem dCi_decrypt_240 : decode cCi_decrypt 240 = .ok (.iinc 9 (-1), 3) := by decide +kernel
theorem dCi_decrypt_243 : decode cCi_decrypt 243 = .ok (.goto (-217), 3) := by decide +kernel
theorem dCi_decrypt_246 : decode cCi_decrypt 246 = .ok (.aload_n 0, 1) := by decide +kernel
theorem dCi_decrypt_247 : decode cCi_decrypt 247 = .ok (.iload 5, 2) := by decide +kernel
theorem dCi_decrypt_249 : decode cCi_decrypt 249 = .ok (.aload_n 0, 1) := by decide +kernel
theorem dCi_decrypt_250 : decode cCi_decrypt 250 = .ok (.getfield 9, 3) := by decide +kernel
theorem dCi_decrypt_253 : decode cCi_decrypt 253 = .ok (.iconst 0, 1) := by decide +kernel
theorem dCi_decrypt_254 : decode cCi_decrypt 254 = .ok (.iaload, 1) := by decide +kernel
theorem dCi_decrypt_255 : decode cCi_decrypt 255 = .ok (.ixor, 1) := by decide +kernel
theorem dCi_decrypt_256 : decode cCi_decrypt 256 = .ok (.iload 6, 2) := by decide +kernel
theorem dCi_decrypt_258 : decode cCi_decrypt 258 = .ok (.aload_n 0, 1) := by decide +kernel
theorem dCi_decrypt_259 : decode cCi_decrypt 259 = .ok (.getfield 9, 3) := by decide +kernel
theorem dCi_decrypt_262 : decode cCi_decrypt 262 = .ok (.iconst 1, 1) := by decide +kernel
theorem dCi_decrypt_263 : decode cCi_decrypt 263 = .ok (.iaload, 1) := by decide +kernel
theorem dCi_decrypt_264 : decode cCi_decrypt 264 = .ok (.ixor, 1) := by decide +kernel
theorem dCi_decrypt_265 : decode cCi_decrypt 265 = .ok (.iload 7, 2) := by decide +kernel
theorem dCi_decrypt_267 : decode cCi_decrypt 267 = .ok (.aload_n 0, 1) := by decide +kernel
theorem dCi_decrypt_268 : decode cCi_decrypt 268 = .ok (.getfield 9, 3) := by decide +kernel
theorem dCi_decrypt_271 : decode cCi_decrypt 271 = .ok (.iconst 2, 1) := by decide +kernel
theorem dCi_decrypt_272 : decode cCi_decrypt 272 = .ok (.iaload, 1) := by decide +kernel
theorem dCi_decrypt_273 : decode cCi_decrypt 273 = .ok (.ixor, 1) := by decide +kernel
theorem dCi_decrypt_274 : decode cCi_decrypt 274 = .ok (.iload 8, 2) := by decide +kernel
theorem dCi_decrypt_276 : decode cCi_decrypt 276 = .ok (.aload_n 0, 1) := by decide +kernel
theorem dCi_decrypt_277 : decode cCi_decrypt 277 = .ok (.getfield 9, 3) := by decide +kernel
theorem dCi_decrypt_280 : decode cCi_decrypt 280 = .ok (.iconst 3, 1) := by decide +kernel
theorem dCi_decrypt_281 : decode cCi_decrypt 281 = .ok (.iaload, 1) := by decide +kernel
theorem dCi_decrypt_282 : decode cCi_decrypt 282 = .ok (.ixor, 1) := by decide +kernel
theorem dCi_decrypt_283 : decode cCi_decrypt 283 = .ok (.invokevirtual 33, 3) := by decide +kernel
theorem dCi_decrypt_286 : decode cCi_decrypt 286 = .ok (.return_, 1) := by decide +kernel
theorem dCi_unmix_0 : decode cCi_unmix 0 = .ok (.iload_n 0, 1) := by decide +kernel
theorem dCi_unmix_1 : decode cCi_unmix 1 = .ok (.iload_n 0, 1) := by decide +kernel
theorem dCi_unmix_2 : decode cCi_unmix 2 = .ok (.iload_n 0, 1) := by decide +kernel
theorem dCi_unmix_3 : decode cCi_unmix 3 = .ok (.bipush 16, 2) := by decide +kernel
theorem dCi_unmix_5 : decode cCi_unmix 5 = .ok (.invokestatic 13, 3) := by decide +kernel
theorem dCi_unmix_8 : decode cCi_unmix 8 = .ok (.ixor, 1) := by decide +kernel
theorem dCi_unmix_9 : decode cCi_unmix 9 = .ok (.invokestatic 26, 3) := by decide +kernel
theorem dCi_unmix_12 : decode cCi_unmix 12 = .ok (.invokestatic 26, 3) := by decide +kernel
theorem dCi_unmix_15 : decode cCi_unmix 15 = .ok (.ixor, 1) := by decide +kernel
theorem dCi_unmix_16 : decode cCi_unmix 16 = .ok (.invokestatic 30, 3) := by decide +kernel
theorem dCi_unmix_19 : decode cCi_unmix 19 = .ok (.ireturn, 1) := by decide +kernel
section FLD
variable {p : Program} {l : Launch} {e : Env} {R : Room} {s : State} {m : MethodId} {args : Array Value} {below : List Frame} {meth : Method} {c : Code} {H : Heap} {locs : List Loc} {cells slots : Nat} {Q : State → Prop}
variable {cc : ByteArray} {pc : Nat} {ls : Array Slot} {rest : List Value} {G : gG} {A : Nat → Prop} {ws : va_W} {a : Nat} {fs : List Value} {v : Value}
theorem kfCi_9 : (Cond.fieldLink "CoverKeys$Cipher" 9 "CoverKeys$Cipher" "words" "[I") ∈ ckT := ck_m1 (List.mem_of_getElem? (i := 32) rfl) rfl
theorem gfCi_9 (hx : p.tables.exec = Jvm.exec) (hb : c.code = cc) (hts : ∀ w ∈ ckT, w.before args s = true) (hown : s.vm.findClass "CoverKeys$Cipher" = some m.cls) (hG : gk G A s s.heap) (hP : va_P G.1 vwCl ws H) (q0 : Nat) (he : ws[q0]? = some (oC a 1 fs)) (hv : fs[0]? = some v) (hdg : decode cc pc = .ok (.getfield 9, 3))
    (kk : W p l e R s m args below meth c H locs cells slots Q (F0 m (pc + 3) ls (v :: rest))) : W p l e R s m args below meth c H locs cells slots Q (F0 m pc ls (.ref a :: rest)) :=
  va_get (T := TCi) (N := 3) hx hb hts inCi hown hG.1 hP q0 he rfl 0 (by decide) (hts _ kfCi_9) (fun _ h => h) hv hdg kk
theorem kfCi_45 : (Cond.fieldLink "CoverKeys$Cipher" 45 "CoverKeys$Cipher" "high" "J") ∈ ckT := ck_m1 (List.mem_of_getElem? (i := 34) rfl) rfl
theorem gfCi_45 (hx : p.tables.exec = Jvm.exec) (hb : c.code = cc) (hts : ∀ w ∈ ckT, w.before args s = true) (hown : s.vm.findClass "CoverKeys$Cipher" = some m.cls) (hG : gk G A s s.heap) (hP : va_P G.1 vwCl ws H) (q0 : Nat) (he : ws[q0]? = some (oC a 1 fs)) (hv : fs[1]? = some v) (hdg : decode cc pc = .ok (.getfield 45, 3))
    (kk : W p l e R s m args below meth c H locs cells slots Q (F0 m (pc + 3) ls (v :: rest))) : W p l e R s m args below meth c H locs cells slots Q (F0 m pc ls (.ref a :: rest)) :=
  va_get (T := TCi) (N := 3) hx hb hts inCi hown hG.1 hP q0 he rfl 1 (by decide) (hts _ kfCi_45) (fun _ h => h) hv hdg kk
theorem pfCi_45 (hx : p.tables.exec = Jvm.exec) (hb : c.code = cc) (hts : ∀ w ∈ ckT, w.before args s = true) (hown : s.vm.findClass "CoverKeys$Cipher" = some m.cls) (hG : gk G A s s.heap) (hP : va_P G.1 vwCl ws H) (hD : va_D A ws) (hS : va_S A s.heap H locs) (q0 : Nat) (he : ws[q0]? = some (oC a 1 fs)) (hn : narrow (.long) v = v) (hfit : fits (.long) v = true) (hl : 1 < fs.length) (hdg : decode cc pc = .ok (.putfield 45, 3))
    (kk : ∀ (H1 : Heap) (locs1 : List Loc), va_P G.1 vwCl (ws.set q0 (oC a 1 (fs.set 1 v))) H1 → va_D A (ws.set q0 (oC a 1 (fs.set 1 v))) → va_S A s.heap H1 locs1 → W p l e R s m args below meth c H1 locs1 cells slots Q (F0 m (pc + 3) ls rest)) : W p l e R s m args below meth c H locs cells slots Q (F0 m pc ls (v :: .ref a :: rest)) :=
  va_put (T := TCi) (N := 3) hx hb hts inCi tyCi tyCi_ok nmCi hown hG.1 hP hD hS q0 he rfl 1 (by decide) (hts _ kfCi_45) (fun _ h => h) rfl (tyCi_ok 1 (by decide)) hn hfit hl hdg kk
theorem kfCi_49 : (Cond.fieldLink "CoverKeys$Cipher" 49 "CoverKeys$Cipher" "low" "J") ∈ ckT := ck_m1 (List.mem_of_getElem? (i := 38) rfl) rfl
theorem gfCi_49 (hx : p.tables.exec = Jvm.exec) (hb : c.code = cc) (hts : ∀ w ∈ ckT, w.before args s = true) (hown : s.vm.findClass "CoverKeys$Cipher" = some m.cls) (hG : gk G A s s.heap) (hP : va_P G.1 vwCl ws H) (q0 : Nat) (he : ws[q0]? = some (oC a 1 fs)) (hv : fs[2]? = some v) (hdg : decode cc pc = .ok (.getfield 49, 3))
    (kk : W p l e R s m args below meth c H locs cells slots Q (F0 m (pc + 3) ls (v :: rest))) : W p l e R s m args below meth c H locs cells slots Q (F0 m pc ls (.ref a :: rest)) :=
  va_get (T := TCi) (N := 3) hx hb hts inCi hown hG.1 hP q0 he rfl 2 (by decide) (hts _ kfCi_49) (fun _ h => h) hv hdg kk
theorem pfCi_49 (hx : p.tables.exec = Jvm.exec) (hb : c.code = cc) (hts : ∀ w ∈ ckT, w.before args s = true) (hown : s.vm.findClass "CoverKeys$Cipher" = some m.cls) (hG : gk G A s s.heap) (hP : va_P G.1 vwCl ws H) (hD : va_D A ws) (hS : va_S A s.heap H locs) (q0 : Nat) (he : ws[q0]? = some (oC a 1 fs)) (hn : narrow (.long) v = v) (hfit : fits (.long) v = true) (hl : 2 < fs.length) (hdg : decode cc pc = .ok (.putfield 49, 3))
    (kk : ∀ (H1 : Heap) (locs1 : List Loc), va_P G.1 vwCl (ws.set q0 (oC a 1 (fs.set 2 v))) H1 → va_D A (ws.set q0 (oC a 1 (fs.set 2 v))) → va_S A s.heap H1 locs1 → W p l e R s m args below meth c H1 locs1 cells slots Q (F0 m (pc + 3) ls rest)) : W p l e R s m args below meth c H locs cells slots Q (F0 m pc ls (v :: .ref a :: rest)) :=
  va_put (T := TCi) (N := 3) hx hb hts inCi tyCi tyCi_ok nmCi hown hG.1 hP hD hS q0 he rfl 2 (by decide) (hts _ kfCi_49) (fun _ h => h) rfl (tyCi_ok 2 (by decide)) hn hfit hl hdg kk
end FLD
section CLL
variable {p : Program} {l : Launch} {e : Env} {R : Room} {s : State} {m : MethodId} {args : Array Value} {below : List Frame} {meth : Method} {c : Code} {H : Heap} {locs : List Loc} {cells slots : Nat} {Q : State → Prop}
variable {cc : ByteArray} {pc nL n : Nat} {ls : Array Slot} {rest st0 As : List Value} {G : gG} {A : Nat → Prop} {ws wi : va_W} {S : Type} {φ : S → Prop} {r : S → Option Value} {wo : S → va_W} {rm : Room} {b : Nat} {fs : List Value}
theorem kcCi_turn : Cond.code yCi_turn cCi_turn 2 (some .int) ∈ ckT := ck_m2 (List.mem_of_getElem? (i := 204) rfl) rfl
theorem ksCi_turn : Cond.static yCi_turn ∈ ckT := ck_m2 (List.mem_of_getElem? (i := 203) rfl) rfl
theorem knCi : Cond.initialized "CoverKeys$Cipher" ∈ ckT := ck_m1 (List.mem_of_getElem? (i := 2) rfl) rfl
theorem kmCi_13 : Cond.methodLink "CoverKeys$Cipher" 13 yCi_turn ∈ ckT := ck_m2 (List.mem_of_getElem? (i := 202) rfl) rfl
theorem clCi_13 (hx : p.tables.exec = Jvm.exec) (hb : c.code = cc) (hml : c.maxLocals = nL) (hown : s.vm.findClass "CoverKeys$Cipher" = some m.cls) (hts : ∀ w ∈ ckT, w.before args s = true) (hM : Cq l G yCi_turn cCi_turn 2 (some .int) rm As wi φ r wo) (hG : gk G A s s.heap) (hA : ∀ q : Nat, s.heap.size ≤ q → A q) (hP : va_P G.1 vwCl ws H) (hD : va_D A ws) (hS : va_S A s.heap H locs) (is : List Nat) (hC : is.map (fun i => ws[i]?) = wi.map some) (hnd : va_nd is = true) (ha : ∀ u, (wo u).map (·.1) = wi.map (·.1)) (hn : As.length = 2) (hsize : ls.size = nL) (hst : st0 = As.reverse ++ rest) (hrm : (rest.map fun v => v.category).sum ≤ 8) (hR : rm.frames + 1 ≤ R.frames ∧ 8 + (2 + 11) + rm.locals ≤ R.locals) (hf : cells + rm.cells ≤ R.cells ∧ slots + rm.slots ≤ R.slots) (hdg : decode cc pc = .ok (.invokestatic 13, 3)) (kk : ∀ (u : S) (H1 : Heap) (locs1 : List Loc), φ u → va_P G.1 vwCl (ck_set ws is (wo u)) H1 → va_D A (ck_set ws is (wo u)) → va_S A s.heap H1 locs1 → W p l e R s m args below meth c H1 locs1 (cells + rm.cells) (slots + rm.slots) Q (F0 m (pc + 3) ls ((r u).toList ++ rest))) :
    W p l e R s m args below meth c H locs cells slots Q (F0 m pc ls st0) :=
  cq_S ⟨hx, hb, hml, hown, hts⟩ hM ⟨callB_of 2 hts (ck_gd0 kcCi_turn) rfl rfl rfl (hts _ knCi) (hts _ kmCi_13) ⟨by decide, by decide, by decide +kernel⟩ hR, hts _ ksCi_turn⟩ hG hA hP hD hS is hC hnd ha hn hsize hst hrm hdg hf kk
theorem kcCi_gather : Cond.code yCi_gather cCi_gather 5 (some .int) ∈ ckT := ck_m2 (List.mem_of_getElem? (i := 209) rfl) rfl
theorem ksCi_gather : Cond.static yCi_gather ∈ ckT := ck_m2 (List.mem_of_getElem? (i := 208) rfl) rfl
theorem kmCi_22 : Cond.methodLink "CoverKeys$Cipher" 22 yCi_gather ∈ ckT := ck_m2 (List.mem_of_getElem? (i := 207) rfl) rfl
theorem clCi_22 (hx : p.tables.exec = Jvm.exec) (hb : c.code = cc) (hml : c.maxLocals = nL) (hown : s.vm.findClass "CoverKeys$Cipher" = some m.cls) (hts : ∀ w ∈ ckT, w.before args s = true) (hM : Cq l G yCi_gather cCi_gather 5 (some .int) rm As wi φ r wo) (hG : gk G A s s.heap) (hA : ∀ q : Nat, s.heap.size ≤ q → A q) (hP : va_P G.1 vwCl ws H) (hD : va_D A ws) (hS : va_S A s.heap H locs) (is : List Nat) (hC : is.map (fun i => ws[i]?) = wi.map some) (hnd : va_nd is = true) (ha : ∀ u, (wo u).map (·.1) = wi.map (·.1)) (hn : As.length = 5) (hsize : ls.size = nL) (hst : st0 = As.reverse ++ rest) (hrm : (rest.map fun v => v.category).sum ≤ 8) (hR : rm.frames + 1 ≤ R.frames ∧ 8 + (5 + 11) + rm.locals ≤ R.locals) (hf : cells + rm.cells ≤ R.cells ∧ slots + rm.slots ≤ R.slots) (hdg : decode cc pc = .ok (.invokestatic 22, 3)) (kk : ∀ (u : S) (H1 : Heap) (locs1 : List Loc), φ u → va_P G.1 vwCl (ck_set ws is (wo u)) H1 → va_D A (ck_set ws is (wo u)) → va_S A s.heap H1 locs1 → W p l e R s m args below meth c H1 locs1 (cells + rm.cells) (slots + rm.slots) Q (F0 m (pc + 3) ls ((r u).toList ++ rest))) :
    W p l e R s m args below meth c H locs cells slots Q (F0 m pc ls st0) :=
  cq_S ⟨hx, hb, hml, hown, hts⟩ hM ⟨callB_of 5 hts (ck_gd0 kcCi_gather) rfl rfl rfl (hts _ knCi) (hts _ kmCi_22) ⟨by decide, by decide, by decide +kernel⟩ hR, hts _ ksCi_gather⟩ hG hA hP hD hS is hC hnd ha hn hsize hst hrm hdg hf kk
theorem kcCi_twice : Cond.code yCi_twice cCi_twice 1 (some .int) ∈ ckT := ck_m2 (List.mem_of_getElem? (i := 212) rfl) rfl
theorem ksCi_twice : Cond.static yCi_twice ∈ ckT := ck_m2 (List.mem_of_getElem? (i := 211) rfl) rfl
theorem kmCi_26 : Cond.methodLink "CoverKeys$Cipher" 26 yCi_twice ∈ ckT := ck_m2 (List.mem_of_getElem? (i := 210) rfl) rfl
theorem clCi_26 (hx : p.tables.exec = Jvm.exec) (hb : c.code = cc) (hml : c.maxLocals = nL) (hown : s.vm.findClass "CoverKeys$Cipher" = some m.cls) (hts : ∀ w ∈ ckT, w.before args s = true) (hM : Cq l G yCi_twice cCi_twice 1 (some .int) rm As wi φ r wo) (hG : gk G A s s.heap) (hA : ∀ q : Nat, s.heap.size ≤ q → A q) (hP : va_P G.1 vwCl ws H) (hD : va_D A ws) (hS : va_S A s.heap H locs) (is : List Nat) (hC : is.map (fun i => ws[i]?) = wi.map some) (hnd : va_nd is = true) (ha : ∀ u, (wo u).map (·.1) = wi.map (·.1)) (hn : As.length = 1) (hsize : ls.size = nL) (hst : st0 = As.reverse ++ rest) (hrm : (rest.map fun v => v.category).sum ≤ 8) (hR : rm.frames + 1 ≤ R.frames ∧ 8 + (1 + 11) + rm.locals ≤ R.locals) (hf : cells + rm.cells ≤ R.cells ∧ slots + rm.slots ≤ R.slots) (hdg : decode cc pc = .ok (.invokestatic 26, 3)) (kk : ∀ (u : S) (H1 : Heap) (locs1 : List Loc), φ u → va_P G.1 vwCl (ck_set ws is (wo u)) H1 → va_D A (ck_set ws is (wo u)) → va_S A s.heap H1 locs1 → W p l e R s m args below meth c H1 locs1 (cells + rm.cells) (slots + rm.slots) Q (F0 m (pc + 3) ls ((r u).toList ++ rest))) :
    W p l e R s m args below meth c H locs cells slots Q (F0 m pc ls st0) :=
  cq_S ⟨hx, hb, hml, hown, hts⟩ hM ⟨callB_of 1 hts (ck_gd0 kcCi_twice) rfl rfl rfl (hts _ knCi) (hts _ kmCi_26) ⟨by decide, by decide, by decide +kernel⟩ hR, hts _ ksCi_twice⟩ hG hA hP hD hS is hC hnd ha hn hsize hst hrm hdg hf kk
theorem kcCi_mix : Cond.code yCi_mix cCi_mix 2 (some .int) ∈ ckT := ck_m2 (List.mem_of_getElem? (i := 221) rfl) rfl
theorem ksCi_mix : Cond.static yCi_mix ∈ ckT := ck_m2 (List.mem_of_getElem? (i := 220) rfl) rfl
theorem kmCi_30 : Cond.methodLink "CoverKeys$Cipher" 30 yCi_mix ∈ ckT := ck_m2 (List.mem_of_getElem? (i := 219) rfl) rfl
theorem clCi_30 (hx : p.tables.exec = Jvm.exec) (hb : c.code = cc) (hml : c.maxLocals = nL) (hown : s.vm.findClass "CoverKeys$Cipher" = some m.cls) (hts : ∀ w ∈ ckT, w.before args s = true) (hM : Cq l G yCi_mix cCi_mix 2 (some .int) rm As wi φ r wo) (hG : gk G A s s.heap) (hA : ∀ q : Nat, s.heap.size ≤ q → A q) (hP : va_P G.1 vwCl ws H) (hD : va_D A ws) (hS : va_S A s.heap H locs) (is : List Nat) (hC : is.map (fun i => ws[i]?) = wi.map some) (hnd : va_nd is = true) (ha : ∀ u, (wo u).map (·.1) = wi.map (·.1)) (hn : As.length = 1) (hsize : ls.size = nL) (hst : st0 = As.reverse ++ rest) (hrm : (rest.map fun v => v.category).sum ≤ 8) (hR : rm.frames + 1 ≤ R.frames ∧ 8 + (2 + 11) + rm.locals ≤ R.locals) (hf : cells + rm.cells ≤ R.cells ∧ slots + rm.slots ≤ R.slots) (hdg : decode cc pc = .ok (.invokestatic 30, 3)) (kk : ∀ (u : S) (H1 : Heap) (locs1 : List Loc), φ u → va_P G.1 vwCl (ck_set ws is (wo u)) H1 → va_D A (ck_set ws is (wo u)) → va_S A s.heap H1 locs1 → W p l e R s m args below meth c H1 locs1 (cells + rm.cells) (slots + rm.slots) Q (F0 m (pc + 3) ls ((r u).toList ++ rest))) :
    W p l e R s m args below meth c H locs cells slots Q (F0 m pc ls st0) :=
  cq_S ⟨hx, hb, hml, hown, hts⟩ hM ⟨callB_of 1 hts (ck_gd0 kcCi_mix) rfl rfl rfl (hts _ knCi) (hts _ kmCi_30) ⟨by decide, by decide, by decide +kernel⟩ hR, hts _ ksCi_mix⟩ hG hA hP hD hS is hC hnd ha hn hsize hst hrm hdg hf kk
theorem kcCi_keepBlock : Cond.code yCi_keepBlock cCi_keepBlock 5 none ∈ ckT := ck_m2 (List.mem_of_getElem? (i := 225) rfl) rfl
theorem kiCi_keepBlock : Cond.instanceMethod yCi_keepBlock ∈ ckT := ck_m2 (List.mem_of_getElem? (i := 224) rfl) rfl
theorem keCi_keepBlock : Cond.selects "CoverKeys$Cipher" yCi_keepBlock yCi_keepBlock ∈ ckT := ck_ms (List.mem_of_getElem? (i := 6) rfl) rfl
theorem kmCi_33 : Cond.methodLink "CoverKeys$Cipher" 33 yCi_keepBlock ∈ ckT := ck_m2 (List.mem_of_getElem? (i := 222) rfl) rfl
theorem clCi_33 (hx : p.tables.exec = Jvm.exec) (hb : c.code = cc) (hml : c.maxLocals = nL) (hown : s.vm.findClass "CoverKeys$Cipher" = some m.cls) (hts : ∀ w ∈ ckT, w.before args s = true) (hM : Cq l G yCi_keepBlock cCi_keepBlock 5 none rm (.ref b :: As) wi φ r wo) (hG : gk G A s s.heap) (hA : ∀ q : Nat, s.heap.size ≤ q → A q) (hP : va_P G.1 vwCl ws H) (hD : va_D A ws) (hS : va_S A s.heap H locs) (q0 : Nat) (hq : ws[q0]? = some (oC b 1 fs)) (is : List Nat) (hC : is.map (fun i => ws[i]?) = wi.map some) (hnd : va_nd is = true) (ha : ∀ u, (wo u).map (·.1) = wi.map (·.1)) (hn : As.length = 4) (hsize : ls.size = nL) (hst : st0 = As.reverse ++ .ref b :: rest) (hrm : (rest.map fun v => v.category).sum ≤ 8) (hR : rm.frames + 1 ≤ R.frames ∧ 8 + (5 + 11) + rm.locals ≤ R.locals) (hf : cells + rm.cells ≤ R.cells ∧ slots + rm.slots ≤ R.slots) (hdg : decode cc pc = .ok (.invokevirtual 33, 3)) (kk : ∀ (u : S) (H1 : Heap) (locs1 : List Loc), φ u → va_P G.1 vwCl (ck_set ws is (wo u)) H1 → va_D A (ck_set ws is (wo u)) → va_S A s.heap H1 locs1 → W p l e R s m args below meth c H1 locs1 (cells + rm.cells) (slots + rm.slots) Q (F0 m (pc + 3) ls ((r u).toList ++ rest))) :
    W p l e R s m args below meth c H locs cells slots Q (F0 m pc ls st0) :=
  cq_V (T := TCi) (N := 3) ⟨hx, hb, hml, hown, hts⟩ hM ⟨callB_of 4 hts (ck_gd0 kcCi_keepBlock) rfl rfl rfl (hts _ knCi) (hts _ kmCi_33) ⟨by decide, by decide, by decide +kernel⟩ hR, hts _ kiCi_keepBlock, hts _ keCi_keepBlock⟩ hG hA hP hD hS hq rfl is hC hnd ha hn hsize hst hrm hdg hf kk
theorem kcCi_unmix : Cond.code yCi_unmix cCi_unmix 1 (some .int) ∈ ckT := ck_m3 (List.mem_of_getElem? (i := 60) rfl) rfl
theorem ksCi_unmix : Cond.static yCi_unmix ∈ ckT := ck_m3 (List.mem_of_getElem? (i := 59) rfl) rfl
theorem kmCi_37 : Cond.methodLink "CoverKeys$Cipher" 37 yCi_unmix ∈ ckT := ck_m3 (List.mem_of_getElem? (i := 58) rfl) rfl
theorem clCi_37 (hx : p.tables.exec = Jvm.exec) (hb : c.code = cc) (hml : c.maxLocals = nL) (hown : s.vm.findClass "CoverKeys$Cipher" = some m.cls) (hts : ∀ w ∈ ckT, w.before args s = true) (hM : Cq l G yCi_unmix cCi_unmix 1 (some .int) rm As wi φ r wo) (hG : gk G A s s.heap) (hA : ∀ q : Nat, s.heap.size ≤ q → A q) (hP : va_P G.1 vwCl ws H) (hD : va_D A ws) (hS : va_S A s.heap H locs) (is : List Nat) (hC : is.map (fun i => ws[i]?) = wi.map some) (hnd : va_nd is = true) (ha : ∀ u, (wo u).map (·.1) = wi.map (·.1)) (hn : As.length = 1) (hsize : ls.size = nL) (hst : st0 = As.reverse ++ rest) (hrm : (rest.map fun v => v.category).sum ≤ 8) (hR : rm.frames + 1 ≤ R.frames ∧ 8 + (1 + 11) + rm.locals ≤ R.locals) (hf : cells + rm.cells ≤ R.cells ∧ slots + rm.slots ≤ R.slots) (hdg : decode cc pc = .ok (.invokestatic 37, 3)) (kk : ∀ (u : S) (H1 : Heap) (locs1 : List Loc), φ u → va_P G.1 vwCl (ck_set ws is (wo u)) H1 → va_D A (ck_set ws is (wo u)) → va_S A s.heap H1 locs1 → W p l e R s m args below meth c H1 locs1 (cells + rm.cells) (slots + rm.slots) Q (F0 m (pc + 3) ls ((r u).toList ++ rest))) :
    W p l e R s m args below meth c H locs cells slots Q (F0 m pc ls st0) :=
  cq_S ⟨hx, hb, hml, hown, hts⟩ hM ⟨callB_of 1 hts (ck_gd0 kcCi_unmix) rfl rfl rfl (hts _ knCi) (hts _ kmCi_37) ⟨by decide, by decide, by decide +kernel⟩ hR, hts _ ksCi_unmix⟩ hG hA hP hD hS is hC hnd ha hn hsize hst hrm hdg hf kk
end CLL
